section
-- ===== PART A: goes FIRST, ahead of the names: the tables' words, and 'selects' of the private methods out of them =====
/-- a private method of a class that the tables say can be made, by its rows of tables_1 -/
def lw_okq (q : MethodName × Nat) : Prop := (q.1.cls ≠ "java/lang/invoke/MethodHandle" ∧ q.1.cls ≠ "java/lang/invoke/VarHandle") ∧ Cond.instantiable q.1.cls q.2 ∈ tables_1 ∧ Cond.privateMethod q.1 ∈ tables_1 ∧ Cond.instanceMethod q.1 ∈ tables_1
theorem lw_p0 : lw_okq (⟨"ThatchRoof$Roof", "thicknessOver", "(I)I"⟩, 10) := ⟨⟨by decide +kernel, by decide +kernel⟩, List.mem_of_getElem? (i := 23) (by decide +kernel), List.mem_of_getElem? (i := 103) (by decide +kernel), List.mem_of_getElem? (i := 104) (by decide +kernel)⟩
theorem lw_p1 : lw_okq (⟨"ThatchRoof", "tally", "(I)I"⟩, 7) := ⟨⟨by decide +kernel, by decide +kernel⟩, List.mem_of_getElem? (i := 14) (by decide +kernel), List.mem_of_getElem? (i := 113) (by decide +kernel), List.mem_of_getElem? (i := 114) (by decide +kernel)⟩
theorem lw_p2 : lw_okq (⟨"ThatchRoof", "tallyOfRoofs", "(I)I"⟩, 7) := ⟨⟨by decide +kernel, by decide +kernel⟩, List.mem_of_getElem? (i := 14) (by decide +kernel), List.mem_of_getElem? (i := 117) (by decide +kernel), List.mem_of_getElem? (i := 118) (by decide +kernel)⟩
theorem lw_p3 : lw_okq (⟨"ThatchRoof", "rainAhead", "(I)I"⟩, 7) := ⟨⟨by decide +kernel, by decide +kernel⟩, List.mem_of_getElem? (i := 14) (by decide +kernel), List.mem_of_getElem? (i := 131) (by decide +kernel), List.mem_of_getElem? (i := 132) (by decide +kernel)⟩
theorem lw_p4 : lw_okq (⟨"ThatchRoof", "monthOfYear", "(I)I"⟩, 7) := ⟨⟨by decide +kernel, by decide +kernel⟩, List.mem_of_getElem? (i := 14) (by decide +kernel), List.mem_of_getElem? (i := 135) (by decide +kernel), List.mem_of_getElem? (i := 136) (by decide +kernel)⟩
theorem lw_p5 : lw_okq (⟨"ThatchRoof", "stormAhead", "(I)I"⟩, 7) := ⟨⟨by decide +kernel, by decide +kernel⟩, List.mem_of_getElem? (i := 14) (by decide +kernel), List.mem_of_getElem? (i := 142) (by decide +kernel), List.mem_of_getElem? (i := 143) (by decide +kernel)⟩
theorem lw_p6 : lw_okq (⟨"ThatchRoof$Roof", "isBare", "(II)Z"⟩, 10) := ⟨⟨by decide +kernel, by decide +kernel⟩, List.mem_of_getElem? (i := 23) (by decide +kernel), List.mem_of_getElem? (i := 165) (by decide +kernel), List.mem_of_getElem? (i := 166) (by decide +kernel)⟩
theorem lw_p7 : lw_okq (⟨"ThatchRoof$Roof", "isHighest", "(I)Z"⟩, 10) := ⟨⟨by decide +kernel, by decide +kernel⟩, List.mem_of_getElem? (i := 23) (by decide +kernel), List.mem_of_getElem? (i := 169) (by decide +kernel), List.mem_of_getElem? (i := 170) (by decide +kernel)⟩
theorem lw_p8 : lw_okq (⟨"java/lang/Throwable", "fillInStackTrace", "(I)Ljava/lang/Throwable;"⟩, 6) := ⟨⟨by decide +kernel, by decide +kernel⟩, List.mem_of_getElem? (i := 223) (by decide +kernel), List.mem_of_getElem? (i := 221) (by decide +kernel), List.mem_of_getElem? (i := 222) (by decide +kernel)⟩
theorem lw_p9 : lw_okq (⟨"ThatchRoof", "roofAt", "(I)LThatchRoof$Roof;"⟩, 7) := ⟨⟨by decide +kernel, by decide +kernel⟩, List.mem_of_getElem? (i := 14) (by decide +kernel), List.mem_of_getElem? (i := 314) (by decide +kernel), List.mem_of_getElem? (i := 315) (by decide +kernel)⟩
theorem lw_p10 : lw_okq (⟨"ThatchRoof$Roof", "rainOn", "(II)I"⟩, 10) := ⟨⟨by decide +kernel, by decide +kernel⟩, List.mem_of_getElem? (i := 23) (by decide +kernel), List.mem_of_getElem? (i := 427) (by decide +kernel), List.mem_of_getElem? (i := 428) (by decide +kernel)⟩
theorem lw_p11 : lw_okq (⟨"ThatchRoof$Roof", "wearBy", "(III)I"⟩, 10) := ⟨⟨by decide +kernel, by decide +kernel⟩, List.mem_of_getElem? (i := 23) (by decide +kernel), List.mem_of_getElem? (i := 431) (by decide +kernel), List.mem_of_getElem? (i := 432) (by decide +kernel)⟩
theorem lw_p12 : lw_okq (⟨"ThatchRoof$Roof", "growMoss", "(II)V"⟩, 10) := ⟨⟨by decide +kernel, by decide +kernel⟩, List.mem_of_getElem? (i := 23) (by decide +kernel), List.mem_of_getElem? (i := 438) (by decide +kernel), List.mem_of_getElem? (i := 439) (by decide +kernel)⟩
theorem lw_p13 : lw_okq (⟨"ThatchRoof$Roof", "stormOn", "(II)I"⟩, 10) := ⟨⟨by decide +kernel, by decide +kernel⟩, List.mem_of_getElem? (i := 23) (by decide +kernel), List.mem_of_getElem? (i := 442) (by decide +kernel), List.mem_of_getElem? (i := 443) (by decide +kernel)⟩
theorem lw_p14 : lw_okq (⟨"ThatchRoof$Roof", "wouldTear", "(III)Z"⟩, 10) := ⟨⟨by decide +kernel, by decide +kernel⟩, List.mem_of_getElem? (i := 23) (by decide +kernel), List.mem_of_getElem? (i := 446) (by decide +kernel), List.mem_of_getElem? (i := 447) (by decide +kernel)⟩
theorem lw_p15 : lw_okq (⟨"ThatchRoof$Roof", "isEnd", "(I)Z"⟩, 10) := ⟨⟨by decide +kernel, by decide +kernel⟩, List.mem_of_getElem? (i := 23) (by decide +kernel), List.mem_of_getElem? (i := 450) (by decide +kernel), List.mem_of_getElem? (i := 451) (by decide +kernel)⟩
def lw_privs_1 : List (MethodName × Nat) := [(⟨"ThatchRoof$Roof", "thicknessOver", "(I)I"⟩, 10), (⟨"ThatchRoof", "tally", "(I)I"⟩, 7), (⟨"ThatchRoof", "tallyOfRoofs", "(I)I"⟩, 7), (⟨"ThatchRoof", "rainAhead", "(I)I"⟩, 7), (⟨"ThatchRoof", "monthOfYear", "(I)I"⟩, 7), (⟨"ThatchRoof", "stormAhead", "(I)I"⟩, 7), (⟨"ThatchRoof$Roof", "isBare", "(II)Z"⟩, 10), (⟨"ThatchRoof$Roof", "isHighest", "(I)Z"⟩, 10), (⟨"java/lang/Throwable", "fillInStackTrace", "(I)Ljava/lang/Throwable;"⟩, 6), (⟨"ThatchRoof", "roofAt", "(I)LThatchRoof$Roof;"⟩, 7), (⟨"ThatchRoof$Roof", "rainOn", "(II)I"⟩, 10), (⟨"ThatchRoof$Roof", "wearBy", "(III)I"⟩, 10), (⟨"ThatchRoof$Roof", "growMoss", "(II)V"⟩, 10), (⟨"ThatchRoof$Roof", "stormOn", "(II)I"⟩, 10), (⟨"ThatchRoof$Roof", "wouldTear", "(III)Z"⟩, 10), (⟨"ThatchRoof$Roof", "isEnd", "(I)Z"⟩, 10)]
theorem lw_r1 : ∀ q ∈ lw_privs_1, lw_okq q := List.forall_mem_cons.mpr ⟨lw_p0, List.forall_mem_cons.mpr ⟨lw_p1, List.forall_mem_cons.mpr ⟨lw_p2, List.forall_mem_cons.mpr ⟨lw_p3, List.forall_mem_cons.mpr ⟨lw_p4, List.forall_mem_cons.mpr ⟨lw_p5, List.forall_mem_cons.mpr ⟨lw_p6, List.forall_mem_cons.mpr ⟨lw_p7, List.forall_mem_cons.mpr ⟨lw_p8, List.forall_mem_cons.mpr ⟨lw_p9, List.forall_mem_cons.mpr ⟨lw_p10, List.forall_mem_cons.mpr ⟨lw_p11, List.forall_mem_cons.mpr ⟨lw_p12, List.forall_mem_cons.mpr ⟨lw_p13, List.forall_mem_cons.mpr ⟨lw_p14, List.forall_mem_cons.mpr ⟨lw_p15, fun _ h => absurd h List.not_mem_nil⟩⟩⟩⟩⟩⟩⟩⟩⟩⟩⟩⟩⟩⟩⟩⟩
theorem lw_p16 : lw_okq (⟨"ThatchRoof", "lostAt", "(LThatchRoof$Roof;III)I"⟩, 7) := ⟨⟨by decide +kernel, by decide +kernel⟩, List.mem_of_getElem? (i := 14) (by decide +kernel), List.mem_of_getElem? (i := 506) (by decide +kernel), List.mem_of_getElem? (i := 507) (by decide +kernel)⟩
theorem lw_p17 : lw_okq (⟨"ThatchRoofModel", "no", "(I)I"⟩, 10) := ⟨⟨by decide +kernel, by decide +kernel⟩, List.mem_of_getElem? (i := 521) (by decide +kernel), List.mem_of_getElem? (i := 616) (by decide +kernel), List.mem_of_getElem? (i := 617) (by decide +kernel)⟩
theorem lw_p18 : lw_okq (⟨"ThatchRoofModel", "isPlace", "(III)Z"⟩, 10) := ⟨⟨by decide +kernel, by decide +kernel⟩, List.mem_of_getElem? (i := 521) (by decide +kernel), List.mem_of_getElem? (i := 632) (by decide +kernel), List.mem_of_getElem? (i := 633) (by decide +kernel)⟩
theorem lw_p19 : lw_okq (⟨"ThatchRoofModel", "isCourse", "(II)Z"⟩, 10) := ⟨⟨by decide +kernel, by decide +kernel⟩, List.mem_of_getElem? (i := 521) (by decide +kernel), List.mem_of_getElem? (i := 636) (by decide +kernel), List.mem_of_getElem? (i := 637) (by decide +kernel)⟩
theorem lw_p20 : lw_okq (⟨"ThatchRoofModel", "isRoof", "(I)Z"⟩, 10) := ⟨⟨by decide +kernel, by decide +kernel⟩, List.mem_of_getElem? (i := 521) (by decide +kernel), List.mem_of_getElem? (i := 640) (by decide +kernel), List.mem_of_getElem? (i := 641) (by decide +kernel)⟩
theorem lw_p21 : lw_okq (⟨"ThatchRoofModel", "isFree", "(III)Z"⟩, 10) := ⟨⟨by decide +kernel, by decide +kernel⟩, List.mem_of_getElem? (i := 521) (by decide +kernel), List.mem_of_getElem? (i := 644) (by decide +kernel), List.mem_of_getElem? (i := 645) (by decide +kernel)⟩
theorem lw_p22 : lw_okq (⟨"ThatchRoofModel", "yealmTold", "(IIII)I"⟩, 10) := ⟨⟨by decide +kernel, by decide +kernel⟩, List.mem_of_getElem? (i := 521) (by decide +kernel), List.mem_of_getElem? (i := 684) (by decide +kernel), List.mem_of_getElem? (i := 685) (by decide +kernel)⟩
theorem lw_p23 : lw_okq (⟨"ThatchRoofModel", "roofTold", "(II)I"⟩, 10) := ⟨⟨by decide +kernel, by decide +kernel⟩, List.mem_of_getElem? (i := 521) (by decide +kernel), List.mem_of_getElem? (i := 697) (by decide +kernel), List.mem_of_getElem? (i := 698) (by decide +kernel)⟩
theorem lw_p24 : lw_okq (⟨"ThatchRoofModel", "counted", "(I)I"⟩, 10) := ⟨⟨by decide +kernel, by decide +kernel⟩, List.mem_of_getElem? (i := 521) (by decide +kernel), List.mem_of_getElem? (i := 717) (by decide +kernel), List.mem_of_getElem? (i := 718) (by decide +kernel)⟩
theorem lw_p25 : lw_okq (⟨"ThatchRoofModel$State", "thinned", "(IIII)I"⟩, 10) := ⟨⟨by decide +kernel, by decide +kernel⟩, List.mem_of_getElem? (i := 527) (by decide +kernel), List.mem_of_getElem? (i := 729) (by decide +kernel), List.mem_of_getElem? (i := 730) (by decide +kernel)⟩
theorem lw_p26 : lw_okq (⟨"ThatchRoofModel$State", "clear", "(I)I"⟩, 10) := ⟨⟨by decide +kernel, by decide +kernel⟩, List.mem_of_getElem? (i := 527) (by decide +kernel), List.mem_of_getElem? (i := 734) (by decide +kernel), List.mem_of_getElem? (i := 735) (by decide +kernel)⟩
theorem lw_p27 : lw_okq (⟨"ThatchRoofModel$State", "copy", "([I[I)V"⟩, 10) := ⟨⟨by decide +kernel, by decide +kernel⟩, List.mem_of_getElem? (i := 527) (by decide +kernel), List.mem_of_getElem? (i := 757) (by decide +kernel), List.mem_of_getElem? (i := 758) (by decide +kernel)⟩
theorem lw_p28 : lw_okq (⟨"ThatchRoofModel", "left", "(III)I"⟩, 10) := ⟨⟨by decide +kernel, by decide +kernel⟩, List.mem_of_getElem? (i := 521) (by decide +kernel), List.mem_of_getElem? (i := 770) (by decide +kernel), List.mem_of_getElem? (i := 771) (by decide +kernel)⟩
def lw_privs_2 : List (MethodName × Nat) := [(⟨"ThatchRoof", "lostAt", "(LThatchRoof$Roof;III)I"⟩, 7), (⟨"ThatchRoofModel", "no", "(I)I"⟩, 10), (⟨"ThatchRoofModel", "isPlace", "(III)Z"⟩, 10), (⟨"ThatchRoofModel", "isCourse", "(II)Z"⟩, 10), (⟨"ThatchRoofModel", "isRoof", "(I)Z"⟩, 10), (⟨"ThatchRoofModel", "isFree", "(III)Z"⟩, 10), (⟨"ThatchRoofModel", "yealmTold", "(IIII)I"⟩, 10), (⟨"ThatchRoofModel", "roofTold", "(II)I"⟩, 10), (⟨"ThatchRoofModel", "counted", "(I)I"⟩, 10), (⟨"ThatchRoofModel$State", "thinned", "(IIII)I"⟩, 10), (⟨"ThatchRoofModel$State", "clear", "(I)I"⟩, 10), (⟨"ThatchRoofModel$State", "copy", "([I[I)V"⟩, 10), (⟨"ThatchRoofModel", "left", "(III)I"⟩, 10)]
theorem lw_r2 : ∀ q ∈ lw_privs_2, lw_okq q := List.forall_mem_cons.mpr ⟨lw_p16, List.forall_mem_cons.mpr ⟨lw_p17, List.forall_mem_cons.mpr ⟨lw_p18, List.forall_mem_cons.mpr ⟨lw_p19, List.forall_mem_cons.mpr ⟨lw_p20, List.forall_mem_cons.mpr ⟨lw_p21, List.forall_mem_cons.mpr ⟨lw_p22, List.forall_mem_cons.mpr ⟨lw_p23, List.forall_mem_cons.mpr ⟨lw_p24, List.forall_mem_cons.mpr ⟨lw_p25, List.forall_mem_cons.mpr ⟨lw_p26, List.forall_mem_cons.mpr ⟨lw_p27, List.forall_mem_cons.mpr ⟨lw_p28, fun _ h => absurd h List.not_mem_nil⟩⟩⟩⟩⟩⟩⟩⟩⟩⟩⟩⟩⟩
def lw_privs : List (MethodName × Nat) := lw_privs_1 ++ (lw_privs_2)
def lw_tbl : List Cond := k2_sels lw_privs ++ tables_1
theorem lw_privs_ok : ∀ q ∈ lw_privs, lw_okq q := by
  show ∀ q ∈ lw_privs_1 ++ (lw_privs_2), lw_okq q
  exact List.forall_mem_append.mpr ⟨lw_r1, lw_r2⟩
end

section
/-! ===== BEGIN words of one list among another's, by their places ===== -/
theorem goodIn_r {big : List Cond} (ws : List Cond) (ps : List Nat) (hp : ws = ps.filterMap (fun i => big[i]?)) (h : ws.all goodWord = true) : GoodIn big ws := by
  intro w hw
  have h1 := List.all_eq_true.mp h w hw
  rw [hp] at hw
  obtain ⟨i, -, hi⟩ := List.mem_filterMap.mp hw
  have hm : w ∈ big := by first | exact List.mem_of_getElem? hi | exact List.getElem?_mem hi
  exact ⟨hm, good_of_word h1⟩
theorem goodIn_app {big a b : List Cond} (ha : GoodIn big a) (hb : GoodIn big b) : GoodIn big (a ++ b) := fun w h => (List.mem_append.mp h).elim (ha w) (hb w)
theorem goodIn_ca {big a b : List Cond} {c : Cond} (ha : GoodIn big (c :: a)) (hb : GoodIn big b) : GoodIn big (c :: (a ++ b)) := fun w h => (List.mem_cons.mp h).elim (fun e => ha w (List.mem_cons.mpr (Or.inl e))) (fun h => (List.mem_append.mp h).elim (fun h => ha w (List.mem_cons.mpr (Or.inr h))) (hb w))
theorem goodIn_sub {big ws : List Cond} (hm : ∀ w ∈ ws, w ∈ big) (h : ws.all goodWord = true) : GoodIn big ws := fun w hw => ⟨hm w hw, good_of_word (List.all_eq_true.mp h w hw)⟩
/-! ===== END ===== -/

/-! ===== BEGIN exceptions that leave a method, and their catching by the caller (launches without stack traces) ===== -/
section VXA
/-! The laws vx_back, vx_callV, vx_callS, vx_callSW, vx_throw0, vx_throwS follow proofs of the library, with one case more: JvmDerived/Free/Laws.lean (Back.of_free), Shelf42/LK1.lean (callV, callS), Shelf/KitTraced.lean (throwNew0V, throwNewS). -/
/-- where a method has thrown q: the class by its name, the cell, what was written, the world -/
def vx_T (XC : String → State → State → Prop) (st : State) (q : Addr) (t : State) (mc ms : Nat) (free : Addr → Prop) : Prop :=
  ∃ (E : String) (ce : Cell) (L : List Loc), XC E st t ∧ t.heap[q]? = some ce ∧ ce.vm = .none ∧ st.vm.findClass E = some ce.cls ∧ st.WarmedH t.vm ∧ st.sameButNew ({ t with vm := st.vm } : State) L mc ms ∧ ∀ z ∈ L, free z.base
def vx_Q (Qc : Array Value → State → Outcome → State → Prop) (XC : String → State → State → Prop) (mc ms : Nat) (free : Addr → Prop) : Array Value → State → Outcome → State → Prop := fun a st o t =>
  (Qc a st o t ∧ ∃ L, FrameEnd st o t L mc ms ∧ ∀ q ∈ L, free q.base) ∨ ∃ q, o = .threw q ∧ vx_T XC st q t mc ms free
section Payer
variable {l : Launch} {R : Room} {p : Program} {e : Env} {below : List Frame} {s : State} {sargs : Array Value} {y : MethodName} {len W9 : Nat}
end Payer
section Calls
variable {p : Program} {l : Launch} {e : Env} {R : Room} {s : State} {m : MethodId} {args : Array Value} {below : List Frame} {meth : Method} {c : Code} {T : State} {locs : List Loc} {cells slots : Nat}
end Calls
/-- the method's frame g, with q thrown over it -/
def vx_W (p : Program) (l : Launch) (e : Env) (R : Room) (s : State) (m : MethodId) (args : Array Value) (below : List Frame) (meth : Method) (c : Code) (H : Heap) (locs : List Loc) (cells slots : Nat) (Q : State → Prop) (g : JFrame) (q : Addr) : Prop :=
  ∀ T : State, T.heap = H → Stand p l e R s m args below meth c T locs cells slots → ∃ t, Steps p.tables e below ((T.setTop g).pushFrame (.throwing q)) t ∧ Q t
section Runs
variable {p : Program} {l : Launch} {e : Env} {R : Room} {s : State} {m : MethodId} {args : Array Value} {below : List Frame} {meth : Method} {c : Code} {H : Heap} {locs : List Loc} {cells slots : Nat}
variable {y : MethodName} {bytes cc : ByteArray} {maxL nL mc ms n index : Nat} {ret : Option FieldType} {ws : List Cond} {rm : Room} {Pc : Array Value → State → Prop} {Qc : Array Value → State → Outcome → State → Prop} {XC : String → State → State → Prop} {free : Addr → Prop} {Ts : List Cond} {own C : String} {b : Addr} {As rest : List Value} {g : JFrame}
end Runs
section Rows
variable {p : Program} {l : Launch} {e : Env} {R : Room} {s : State} {m : MethodId} {args : Array Value} {below : List Frame} {meth : Method} {c : Code} {H : Heap} {locs : List Loc} {cells slots : Nat} {Q : State → Prop}
variable {mc ms : Nat} {free : Addr → Prop} {A0 A1 : Nat → Prop} {H0 : Heap} {a : Array Value} {pc : Nat} {ls : Array Slot} {st0 rest : List Value}
end Rows
section Ends
variable {p : Program} {l : Launch} {e : Env} {R : Room} {s : State} {m : MethodId} {args : Array Value} {below : List Frame} {meth : Method} {c : Code} {H : Heap} {locs : List Loc} {cells slots : Nat} {Q : State → Prop}
variable {mc ms : Nat} {free : Addr → Prop} {A0 A1 : Nat → Prop} {H0 : Heap} {a : Array Value} {ls : Array Slot} {st0 rest : List Value}
variable {Qc : Array Value → State → Outcome → State → Prop} {XC : String → State → State → Prop}
/-- what a body that may throw owes at its end -/
def vx_MQ (below : List Frame) (Qc : Array Value → State → Outcome → State → Prop) (XC : String → State → State → Prop) (a : Array Value) (s : State) (mc ms : Nat) (free : Addr → Prop) : State → Prop := fun t =>
  ∃ o, t.status = .running ∧ Ended t below o ∧ vx_Q Qc XC mc ms free a s o t
/-- the words of a throw but the four that speak of the heap -/
def vx_no (w : Cond) : Bool := decide (w ≠ .isRef (.static Bundle.tN "UNASSIGNED_STACK" Bundle.steD)) && decide (w ≠ .isRef (.static Bundle.tN "SUPPRESSED_SENTINEL" Bundle.listD)) && decide (w ≠ .laysStatic Bundle.tN "UNASSIGNED_STACK" Bundle.steD) && decide (w ≠ .laysStatic Bundle.tN "SUPPRESSED_SENTINEL" Bundle.listD)
def vx_atS (own : String) (ic : Nat) (X : String) (names : List String) : List Cond := (Bundle.ownAtoms own ic X names).filter vx_no
/-- where a static field lies, its class's statics cell in H -/
def vx_L (C n d : String) (A : Nat → Prop) (U : State) (H : Heap) : Prop := ∃ (c : ClassId) (k : Class) (i : Nat) (f : Field) (a : Nat) (cell : Cell), U.vm.findClass C = some c ∧ U.fieldFound? C n d = some (c, k, i, f) ∧ f.isStatic = true ∧ k.statics = some a ∧ H[a]? = some cell ∧ cell.vm.isStatics = true ∧ cell.cls = c ∧ f.slot < cell.slots.size ∧ k.staticTypes[f.slot]? = some f.type ∧ ¬ A a
theorem vx_L.moved {C n d : String} {A : Nat → Prop} {u U : State} {H : Heap} (hvm : u.vm.Alike U.vm) (h : vx_L C n d A u H) : vx_L C n d A U H := by
  obtain ⟨c, k, i, f, a, cell, h1, h2, h3, h4, h5, h6, h7, h8, h9, h10⟩ := h
  obtain ⟨k', hi', he⟩ := State.fieldFound?_setVm hvm h2
  exact ⟨c, k', i, f, a, cell, by rw [hvm.findClass]; exact h1, hi', h3, by rw [he]; exact h4, h5, h6, h7, h8, by rw [he]; exact h9, h10⟩
theorem vx_L.kept {C n d : String} {A : Nat → Prop} {U : State} {H H1 : Heap} (h : vx_L C n d A U H) (hq : ∀ a : Nat, a < H.size → ¬ A a → H1[a]? = H[a]?) : vx_L C n d A U H1 := by
  obtain ⟨c, k, i, f, a, cell, h1, h2, h3, h4, h5, h6, h7, h8, h9, h10⟩ := h
  exact ⟨c, k, i, f, a, cell, h1, h2, h3, h4, by rw [hq a (Array.getElem?_eq_some_iff.mp h5).1 h10]; exact h5, h6, h7, h8, h9, h10⟩
theorem vx_L.narrow {C n d : String} {A B : Nat → Prop} {U : State} {H : Heap} (h : vx_L C n d A U H) (hAB : ∀ q, B q → A q) : vx_L C n d B U H := by
  obtain ⟨c, k, i, f, a, cell, h1, h2, h3, h4, h5, h6, h7, h8, h9, h10⟩ := h
  exact ⟨c, k, i, f, a, cell, h1, h2, h3, h4, h5, h6, h7, h8, h9, fun z => h10 (hAB _ z)⟩
theorem vx_L.word {C n d : String} {A : Nat → Prop} {s : State} {args : Array Value} (h : vx_L C n d A s s.heap) : (Cond.laysStatic C n d).before args s = true := by
  obtain ⟨c, k, i, f, a, cell, h1, h2, h3, h4, h5, h6, h7, h8, h9, -⟩ := h
  show (Cond.laysStatic C n d).holds args s none s [] = true
  exact Cond.laysStatic_of h1 h2 h3 h4 h5 h6 h7 h8 h9
/-- .. and what it holds: null or some reference -/
def vx_Zq (C n d : String) (A : Nat → Prop) (U : State) (H : Heap) : Prop := va_Zq C n d A U H ∧ vx_L C n d A U H
theorem vx_Zq.moved {C n d : String} {A : Nat → Prop} {u U : State} {H : Heap} (hvm : u.vm.Alike U.vm) (h : vx_Zq C n d A u H) : vx_Zq C n d A U H := ⟨va_Zq.moved hvm h.1, vx_L.moved hvm h.2⟩
theorem vx_Zq.kept {C n d : String} {A : Nat → Prop} {U : State} {H H1 : Heap} (h : vx_Zq C n d A U H) (hq : ∀ a : Nat, a < H.size → ¬ A a → H1[a]? = H[a]?) : vx_Zq C n d A U H1 := ⟨va_Zq.kept h.1 hq, vx_L.kept h.2 hq⟩
theorem vx_Zq.narrow {C n d : String} {A B : Nat → Prop} {U : State} {H : Heap} (h : vx_Zq C n d A U H) (hAB : ∀ q, B q → A q) : vx_Zq C n d B U H := ⟨va_Zq.narrow h.1 hAB, vx_L.narrow h.2 hAB⟩
theorem vx_Zqof {args : Array Value} {s : State} {C n d : String} {A : Nat → Prop} (hl : (Cond.laysStatic C n d).before args s = true) (hini : (Cond.initialized C).before args s = true) (h : (Cond.isRef (.static C n d)).before args s = true) (hA : ∀ a : Nat, a < s.heap.size → ¬ A a) : vx_Zq C n d A s s.heap := by
  refine ⟨va_Zqof hl hini h hA, ?_⟩
  obtain ⟨c, k, i, f, a, cell, h1, h2, h3, h4, h5, h6, h7, h8, h9⟩ := Cond.laysStatic_spec hl
  exact ⟨c, k, i, f, a, cell, h1, h2, h3, h4, h5, h6, h7, h8, h9, hA a (Array.getElem?_eq_some_iff.mp h5).1⟩
end Ends
section Bodies
variable {l : Launch}
/-- the table of a body with handlers -/
theorem vx_table {p : Program} {x y : MethodName} {S : Spec} {cc bytes : ByteArray} {maxL maxL' : Nat} {ret ret' : Option FieldType} {e : Env} {s s₁ : State} {m : MethodId} {args : Array Value} {below : List Frame} {meth : Method} {c : Code} {hh : List (Nat × Nat × Nat × Nat)}
    (B : BodyLoose p l y S cc maxL ret e s m args below meth c s₁) (h : (Cond.codeWith y bytes maxL' ret' hh).before args s = true) : c.exceptionTable.toList = tableOf hh := by
  obtain ⟨m9, meth9, c9, hn9, h1, h2, -, -, h6, -⟩ := Cond.codeWith_spec h
  cases Option.some.inj (hn9.symm.trans B.named)
  cases Option.some.inj (h1.symm.trans B.method)
  cases Option.some.inj (h2.symm.trans (Stand.of_body B).code)
  rw [← h6, table_eq]
end Bodies
end VXA
/-! ===== END ===== -/
/-! ===== BEGIN a static call of a method with an exception table ===== -/
section VXS
variable {p : Program} {l : Launch} {e : Env} {R : Room} {s : State} {m : MethodId} {args : Array Value} {below : List Frame} {meth : Method} {c : Code} {T : State} {H : Heap} {locs : List Loc} {cells slots : Nat}
abbrev vx_CSW (R : Room) (s : State) (args : Array Value) (own : String) (index : Nat) (y : MethodName) (bytes : ByteArray) (maxL : Nat) (ret : Option FieldType) (hh : List (Nat × Nat × Nat × Nat)) (ws : List Cond) (rm : Room) (mc ms n : Nat) : Prop :=
  (rm.cells = mc ∧ rm.slots = ms ∧ rm.frames + 1 ≤ R.frames ∧ 8 + (maxL + 11) + rm.locals ≤ R.locals ∧ (∀ w ∈ ws, ∀ (a' : Array Value) (U : State), s.WarmedH U.vm → w.before a' U = true) ∧ Cond.codeWith y bytes maxL ret hh ∈ ws) ∧
  (Cond.codeWith y bytes maxL ret hh).before args s = true ∧ (Cond.initialized y.cls).before args s = true ∧ (y.cls ≠ "java/lang/invoke/MethodHandle" ∧ y.cls ≠ "java/lang/invoke/VarHandle") ∧
  (∀ sig, parseMethodDescriptor y.desc = some sig → n = sig.parameters.length) ∧ (Cond.methodLink own index y).before args s = true ∧ (Cond.static y).before args s = true
theorem vx_cwSW {own : String} {index maxL mc ms : Nat} {y : MethodName} {bytes : ByteArray} {ret : Option FieldType} {hh : List (Nat × Nat × Nat × Nat)} {Ts ws ws' : List Cond} {rm : Room} (n : Nat) (ht : ∀ w ∈ Ts, w.before args s = true) (hT : GoodIn Ts (va_wsS own index y ws)) (hw : ws = Cond.codeWith y bytes maxL ret hh :: ws') (hrc : rm.cells = mc) (hrs : rm.slots = ms)
    (hd : y.cls ≠ "java/lang/invoke/MethodHandle" ∧ y.cls ≠ "java/lang/invoke/VarHandle" ∧ (parseMethodDescriptor y.desc).map (fun d => d.parameters.length) = some n) (hR : rm.frames + 1 ≤ R.frames ∧ 8 + (maxL + 11) + rm.locals ≤ R.locals) :
    vx_CSW R s args own index y bytes maxL ret hh ws rm mc ms n := by
  have ok : ∀ w ∈ va_wsS own index y ws, w.before args s = true := fun w h => ht w (hT w h).1
  have hG : GoodIn Ts ws := fun w h => hT w (by unfold va_wsS; exact List.mem_append_right _ h)
  have hc : Cond.codeWith y bytes maxL ret hh ∈ ws := by rw [hw]; exact List.mem_cons_self
  refine ⟨⟨hrc, hrs, hR.1, hR.2, pay_in ht hG, hc⟩, ht _ (hG _ hc).1, ok _ (by simp [va_wsS]), ⟨hd.1, hd.2.1⟩, fun sig h => ?_, ok _ (by simp [va_wsS]), ok _ (by simp [va_wsS])⟩
  have h2 := hd.2.2
  rw [h] at h2
  exact (Option.some.inj h2).symm
theorem vx_callSW (X : Stand p l e R s m args below meth c T locs cells slots) (hexec : p.tables.exec = Jvm.exec) {own : String} {index : Nat} {y : MethodName} {bytes : ByteArray} {maxL : Nat} {ret : Option FieldType} {hh : List (Nat × Nat × Nat × Nat)}
    (hown : s.vm.findClass own = some m.cls) (hlink : (Cond.methodLink own index y).before args s = true) (hstat : (Cond.static y).before args s = true) (hinit : (Cond.initialized y.cls).before args s = true)
    (hcode : (Cond.codeWith y bytes maxL ret hh).before args s = true) (hy : y.cls ≠ "java/lang/invoke/MethodHandle" ∧ y.cls ≠ "java/lang/invoke/VarHandle")
    {W9 : Nat} {Pre : Pt → Array Value → Prop} {Post : Pt → Array Value → Option Value → Pt → Prop} (hK : Back l R p e below s args y 3 W9 Pre Post)
    {g : JFrame} (hg : g.method = m) (hsize : g.locals.size = c.maxLocals) {argsL rest : List Value} (hlen : ∀ sig, parseMethodDescriptor y.desc = some sig → argsL.length = sig.parameters.length)
    (hstack : g.stack = argsL.reverse ++ rest) (hW : 2 * g.monitorRoom + (rest.map fun v => v.category).sum ≤ W9) (hdg : decode c.code g.pc = .ok (.invokestatic index, 3))
    (hpre : ∀ vm₁, s.WarmedH vm₁ → Pre ⟨T.setVm vm₁, locs, cells, slots⟩ argsL.toArray) :
    ∃ (v : Option Value) (vm₁ : Vm) (B : Pt), s.WarmedH vm₁ ∧ Stand p l e R s m args below meth c B.U B.locs B.cells B.slots ∧ Post ⟨T.setVm vm₁, locs, cells, slots⟩ argsL.toArray v B ∧
      ∀ target, Steps p.tables e below (B.U.setTop { g with pc := g.pc + 3, stack := v.toList ++ rest }) target → Steps p.tables e below (T.setTop g) target := by
  obtain ⟨mk, methM, cM, hnamed, hmethM, -, -, -, -, -, -, hsigM⟩ := Cond.codeWith_spec hcode
  have hstatic : methM.isStatic = true := Cond.static_spec hnamed hmethM hstat
  obtain ⟨kP, hkP, -⟩ := className_of_methodNamed hnamed
  have hinitP : kP.init = .initialized := Cond.initialized_spec (findClass_of_methodNamed hnamed) hkP hinit
  obtain ⟨vm₁, X₁, hstep₁⟩ := X.invokestatic hexec hown hlink hnamed hmethM hstatic hkP hinitP hy (g := g) hg (argsL := argsL) (rest := rest) (hlen _ hsigM) hstack hdg
  obtain ⟨v, B, X', hpost, hsteps⟩ := hK m meth c ⟨T.setVm vm₁, locs, cells, slots⟩ { g with stack := rest } (.invokestatic index) mk argsL.toArray X₁ hg hsize hdg hW (X₁.named hnamed) (hpre vm₁ X₁.warmed)
  exact ⟨v, vm₁, B, X₁.warmed, X', hpost, fun target h => hstep₁ _ fun acts => by rw [doInvoke_state]; exact hsteps.trans h⟩
theorem vx_runSW {y : MethodName} {bytes cc : ByteArray} {maxL nL mc ms n index : Nat} {ret : Option FieldType} {hh : List (Nat × Nat × Nat × Nat)} {ws : List Cond} {rm : Room} {Pc : Array Value → State → Prop} {Qc : Array Value → State → Outcome → State → Prop} {free : Addr → Prop} {Ts : List Cond} {own : String} {As rest : List Value} {g : JFrame}
    (S : CallFix p m c cc nL s args Ts own) (hM : Met l y ws rm Pc Qc mc ms free) (cw : vx_CSW R s args own index y bytes maxL ret hh ws rm mc ms n) (hp : PreS s H Pc As)
    (hg : g.method = m) (hn : As.length = n) (hsize : g.locals.size = nL) (hstack : g.stack = As.reverse ++ rest) (hW : 2 * g.monitorRoom + (rest.map fun v => v.category).sum ≤ 8) (hdg : decode cc g.pc = .ok (.invokestatic index, 3)) (hf : cells + mc ≤ R.cells ∧ slots + ms ≤ R.slots) :
    va_Run p l e R s m args below meth c H locs cells slots mc ms g rest (Qc As.toArray) (free) := by
  obtain ⟨⟨hrc, hrs, hfr, hlo, hws, hcw⟩, hcode, hini, hy, hlen, hl, hstt⟩ := cw
  have hK : Back l R p e below s args y 3 8 (PreOf R mc ms Pc) (PostOf Qc mc ms free) := va_backW (hh := hh) (bytes := bytes) (maxL := maxL) (ret := ret) hM hp.1 hrc hrs hfr hlo hws hcw (fun a' U hW => word_at hW (Or.inl (by first | rfl | simp [Cond.onTables, Cond.keeps, Cond.steady])) hini)
  obtain ⟨hx, hb, hml, ho, -⟩ := S
  intro T hT X
  obtain ⟨v, vm₁, ⟨U', l2, c2, s2⟩, hW₁, X', ⟨g', mk, t, L, e1, e2, hq, h1, hL, h2, h3⟩, st⟩ := vx_callSW X hx (hh := hh) (bytes := bytes) (maxL := maxL) (ret := ret) ho hl hstt hini hcode hy hK hg (hsize.trans hml.symm) (argsL := As) (rest := rest) (fun sig h => hn.trans (hlen sig h)) hstack hW (by rw [hb]; exact hdg)
    (fun vm₁ hW₁ => ⟨hf.1, hf.2, hp.2 (T.setVm vm₁) hT hW₁⟩)
  dsimp only [Pt.U, Pt.locs, Pt.cells, Pt.slots] at X' e1 e2 h1 h2 h3 st
  subst h1; subst h2; subst h3
  exact ⟨v, (T.setVm vm₁).calling g' mk As.toArray, t, U', L, hT, X', hL, e1, e2, hq, st⟩
/-- not caught here, past rows that name other classes: it goes on to the caller -/
theorem vx_outP {p : Program} {l : Launch} {e : Env} {R : Room} {s : State} {m : MethodId} {args : Array Value} {below : List Frame} {meth : Method} {c : Code} {H : Heap} {locs : List Loc} {cells slots : Nat} {free : Addr → Prop} {ls : Array Slot} {rest : List Value} {Qc : Array Value → State → Outcome → State → Prop} {XC : String → State → State → Prop}
    {pc : Nat} {own E : String} {ce : Cell} {q : Addr} {mc ms : Nat} (hown : s.vm.findClass own = some m.cls) (hlocks : meth.locks = false)
    (hpass : ∀ z ∈ c.exceptionTable.toList, covers z pc = false ∨ (z.catchType ≠ 0 ∧ ∃ nm : String, (Cond.classLink own z.catchType nm).before args s = true ∧ va_Nc E nm s)) (hcell : H[q]? = some ce) (hv : ce.vm = .none) (hcl : s.vm.findClass E = some ce.cls)
    (hx : ∀ t : State, t.heap = H → s.vm.Alike t.vm → XC E s t) (hf : ∀ z ∈ locs, free z.base) (hc : cells ≤ mc) (hs : slots ≤ ms) :
    vx_W p l e R s m args below meth c H locs cells slots (vx_MQ below Qc XC args s mc ms free) (F0 m pc ls rest) q := by
  intro T hT X
  have hpl : e.platform.magicAccessors = ({} : Platform).magicAccessors := by rw [X.admits.platform]
  obtain ⟨vm', hW', X', st⟩ := X.outThrough hlocks q (g := F0 m pc ls rest) rfl rfl rfl (cell := ce) (by rw [hT]; exact hcell) (by rw [hv]; rfl)
    (by obtain ⟨k9, h9, -⟩ := Vm.findClass_spec hcl; exact ⟨k9, h9⟩) (fun z hz => by
      rcases hpass z hz with h | ⟨hz0, nm, hl1, hn1⟩
      · exact Or.inl h
      · obtain ⟨c6, hc6, hcl6⟩ := Cond.classLink_spec hown hl1 e.platform hpl
        obtain ⟨a8, b8, h1, h2, h3⟩ := hn1
        cases Option.some.inj (h1.symm.trans hcl)
        cases Option.some.inj (h2.symm.trans hc6)
        exact Or.inr ⟨hz0, _, hcl6, h3⟩)
  obtain ⟨g₀, hfr⟩ := X'.frames_eq
  have hcell9 : ((T.setVm vm').setFrames (.throwing q :: below)).heap[q]? = some ce := by
    show T.heap[q]? = some ce
    rw [hT]; exact hcell
  have hend : Ended ((T.setVm vm').setFrames (.throwing q :: below)) below (.threw q) := State.frames_setFrames _ (State.cur_lt_of_frames hfr)
  refine ⟨(T.setVm vm').setFrames (.throwing q :: below), ?_, .threw q, X'.here.running, hend, Or.inr ⟨q, rfl, E, ce, locs, hx _ hT (X'.ends _).1.alike, hcell9, hv, hcl, (X'.ends _).1, (X'.ends _).2.mono hc hs, hf⟩⟩
  rw [X.pushThrowing_eq]
  exact st
end VXS
/-! ===== END ===== -/
/-! ===== BEGIN methods with a table of their own: called by a name, returning or throwing ===== -/
section VXH
/-! vx_backW, vx_callVX, vx_callSX, vx_callVW, vx_runVW, vx_runVX, vx_runSX, vx_ofWH follow the same proofs as their sisters above (Free/Laws.lean, Shelf42/LK1.lean); vx_outP calls Shelf42/NT130.lean (outThrough). -/
section
variable {l : Launch} {R : Room} {p : Program} {e : Env} {below : List Frame} {s : State} {sargs : Array Value} {y : MethodName} {len W9 : Nat}
end
variable {p : Program} {l : Launch} {e : Env} {R : Room} {s : State} {m : MethodId} {args : Array Value} {below : List Frame} {meth : Method} {c : Code} {T : State} {H : Heap} {locs : List Loc} {cells slots : Nat}
section
variable {y : MethodName} {bytes cc : ByteArray} {maxL nL mc ms n index : Nat} {ret : Option FieldType} {ws : List Cond} {rm : Room} {Pc : Array Value → State → Prop} {Qc : Array Value → State → Outcome → State → Prop} {XC : String → State → State → Prop} {free : Addr → Prop} {Ts : List Cond} {own C : String} {b : Addr} {As rest : List Value} {g : JFrame}
end
end VXH
/-! ===== END ===== -/
end

section
/-! ===== BEGIN printed: names, fields, word lists, decode rows ===== -/
def RX0 : String := "ThatchRoof$Roof"
def TX0 : u_T := fun k => match k with
  | 0 => ("ThatchRoof$Roof", "width", "I", false)
  | 1 => ("ThatchRoof$Roof", "courses", "I", false)
  | 2 => ("ThatchRoof$Roof", "slope", "I", false)
  | 3 => ("ThatchRoof$Roof", "ridge", "I", false)
  | 4 => ("ThatchRoof$Roof", "torn", "I", false)
  | 5 => ("ThatchRoof$Roof", "worn", "I", false)
  | 6 => ("ThatchRoof$Roof", "kinds", "[I", true)
  | 7 => ("ThatchRoof$Roof", "thicknesses", "[I", true)
  | 8 => ("ThatchRoof$Roof", "spars", "[I", true)
  | _ => ("ThatchRoof$Roof", "mosses", "[I", true)
def tyX0 : Nat → FieldType := fun k => match k with
  | 0 => .int
  | 1 => .int
  | 2 => .int
  | 3 => .int
  | 4 => .int
  | 5 => .int
  | 6 => .array .int
  | 7 => .array .int
  | 8 => .array .int
  | _ => .array .int
abbrev wsX00 : List Cond := u_ws RX0 TX0 10
theorem nmX0 : ∀ a, a < 10 → ∀ b, b < 10 → a ≠ b → (TX0 a).2.1 ≠ (TX0 b).2.1 := by decide +kernel
theorem tyX0_ok : ∀ k, k < 10 → parseFieldDescriptor (TX0 k).2.2.1 = some (tyX0 k) := by decide +kernel
abbrev cX0_init : ByteArray := prog_2_method_1_code
def yX0_init : MethodName := ⟨RX0, "<init>", "(III)V"⟩
abbrev cX0_becomeLike : ByteArray := prog_2_method_2_code
def yX0_becomeLike : MethodName := ⟨RX0, "becomeLike", "(LThatchRoof$Roof;)V"⟩
abbrev cX0_wide : ByteArray := prog_2_method_3_code
def yX0_wide : MethodName := ⟨RX0, "wide", "()I"⟩
abbrev cX0_high : ByteArray := prog_2_method_4_code
def yX0_high : MethodName := ⟨RX0, "high", "()I"⟩
abbrev cX0_ridgeLeft : ByteArray := prog_2_method_5_code
def yX0_ridgeLeft : MethodName := ⟨RX0, "ridgeLeft", "()I"⟩
abbrev cX0_hasCourse : ByteArray := prog_2_method_6_code
def yX0_hasCourse : MethodName := ⟨RX0, "hasCourse", "(I)Z"⟩
abbrev cX0_hasPlace : ByteArray := prog_2_method_7_code
def yX0_hasPlace : MethodName := ⟨RX0, "hasPlace", "(II)Z"⟩
abbrev cX0_numberOf : ByteArray := prog_2_method_8_code
def yX0_numberOf : MethodName := ⟨RX0, "numberOf", "(II)I"⟩
abbrev cX0_isHighest : ByteArray := prog_2_method_9_code
def yX0_isHighest : MethodName := ⟨RX0, "isHighest", "(I)Z"⟩
abbrev cX0_isEnd : ByteArray := prog_2_method_10_code
def yX0_isEnd : MethodName := ⟨RX0, "isEnd", "(I)Z"⟩
abbrev cX0_thicknessAt : ByteArray := prog_2_method_11_code
def yX0_thicknessAt : MethodName := ⟨RX0, "thicknessAt", "(II)I"⟩
abbrev cX0_hasYealm : ByteArray := prog_2_method_12_code
def yX0_hasYealm : MethodName := ⟨RX0, "hasYealm", "(II)Z"⟩
abbrev cX0_canCarry : ByteArray := prog_2_method_13_code
def yX0_canCarry : MethodName := ⟨RX0, "canCarry", "(II)Z"⟩
abbrev cX0_isBare : ByteArray := prog_2_method_14_code
def yX0_isBare : MethodName := ⟨RX0, "isBare", "(II)Z"⟩
abbrev cX0_putYealm : ByteArray := prog_2_method_15_code
def yX0_putYealm : MethodName := ⟨RX0, "putYealm", "(IIIII)V"⟩
abbrev cX0_kindAt : ByteArray := prog_2_method_16_code
def yX0_kindAt : MethodName := ⟨RX0, "kindAt", "(II)I"⟩
abbrev cX0_improve : ByteArray := prog_2_method_17_code
def yX0_improve : MethodName := ⟨RX0, "improve", "(II)V"⟩
abbrev cX0_renewRidge : ByteArray := prog_2_method_18_code
def yX0_renewRidge : MethodName := ⟨RX0, "renewRidge", "()I"⟩
abbrev cX0_tellYealm : ByteArray := prog_2_method_19_code
def yX0_tellYealm : MethodName := ⟨RX0, "tellYealm", "(III)I"⟩
abbrev cX0_tell : ByteArray := prog_2_method_20_code
def yX0_tell : MethodName := ⟨RX0, "tell", "(I)I"⟩
abbrev cX0_yealms : ByteArray := prog_2_method_21_code
def yX0_yealms : MethodName := ⟨RX0, "yealms", "()I"⟩
abbrev cX0_thicknessInAll : ByteArray := prog_2_method_22_code
def yX0_thicknessInAll : MethodName := ⟨RX0, "thicknessInAll", "()I"⟩
abbrev cX0_thicknessOver : ByteArray := prog_2_method_23_code
def yX0_thicknessOver : MethodName := ⟨RX0, "thicknessOver", "(I)I"⟩
abbrev cX0_leaks : ByteArray := prog_2_method_24_code
def yX0_leaks : MethodName := ⟨RX0, "leaks", "()I"⟩
abbrev cX0_liveMonth : ByteArray := prog_2_method_25_code
def yX0_liveMonth : MethodName := ⟨RX0, "liveMonth", "(II)I"⟩
abbrev cX0_liveMonthAt : ByteArray := prog_2_method_26_code
def yX0_liveMonthAt : MethodName := ⟨RX0, "liveMonthAt", "(III)I"⟩
abbrev cX0_wearRidge : ByteArray := prog_2_method_27_code
def yX0_wearRidge : MethodName := ⟨RX0, "wearRidge", "(I)V"⟩
abbrev cX0_rainOn : ByteArray := prog_2_method_28_code
def yX0_rainOn : MethodName := ⟨RX0, "rainOn", "(II)I"⟩
abbrev cX0_wearBy : ByteArray := prog_2_method_29_code
def yX0_wearBy : MethodName := ⟨RX0, "wearBy", "(III)I"⟩
abbrev cX0_growMoss : ByteArray := prog_2_method_30_code
def yX0_growMoss : MethodName := ⟨RX0, "growMoss", "(II)V"⟩
abbrev cX0_stormOn : ByteArray := prog_2_method_31_code
def yX0_stormOn : MethodName := ⟨RX0, "stormOn", "(II)I"⟩
abbrev cX0_wouldTear : ByteArray := prog_2_method_32_code
def yX0_wouldTear : MethodName := ⟨RX0, "wouldTear", "(III)Z"⟩
abbrev cX0_wouldTearInAll : ByteArray := prog_2_method_33_code
def yX0_wouldTearInAll : MethodName := ⟨RX0, "wouldTearInAll", "(I)I"⟩
def RX1 : String := "ThatchRoof"
def TX1 : u_T := fun k => match k with
  | 0 => ("ThatchRoof", "roofs", "[LThatchRoof$Roof;", true)
  | 1 => ("ThatchRoof", "built", "I", false)
  | 2 => ("ThatchRoof", "barn", "[I", true)
  | 3 => ("ThatchRoof", "rains", "[I", true)
  | 4 => ("ThatchRoof", "storms", "[I", true)
  | 5 => ("ThatchRoof", "month", "I", false)
  | _ => ("ThatchRoof", "trial", "LThatchRoof$Roof;", true)
def tyX1 : Nat → FieldType := fun k => match k with
  | 0 => .array (.object "ThatchRoof$Roof")
  | 1 => .int
  | 2 => .array .int
  | 3 => .array .int
  | 4 => .array .int
  | 5 => .int
  | _ => .object "ThatchRoof$Roof"
abbrev wsX10 : List Cond := u_ws RX1 TX1 7
theorem nmX1 : ∀ a, a < 7 → ∀ b, b < 7 → a ≠ b → (TX1 a).2.1 ≠ (TX1 b).2.1 := by decide +kernel
theorem tyX1_ok : ∀ k, k < 7 → parseFieldDescriptor (TX1 k).2.2.1 = some (tyX1 k) := by decide +kernel
abbrev cX1_init : ByteArray := prog_1_method_1_code
def yX1_init : MethodName := ⟨RX1, "<init>", "()V"⟩
abbrev cX1_build : ByteArray := prog_1_method_2_code
def yX1_build : MethodName := ⟨RX1, "build", "(III)I"⟩
abbrev cX1_bring : ByteArray := prog_1_method_3_code
def yX1_bring : MethodName := ⟨RX1, "bring", "(II)I"⟩
abbrev cX1_setWeather : ByteArray := prog_1_method_4_code
def yX1_setWeather : MethodName := ⟨RX1, "setWeather", "(III)I"⟩
abbrev cX1_lay : ByteArray := prog_1_method_5_code
def yX1_lay : MethodName := ⟨RX1, "lay", "(IIIIII)I"⟩
abbrev cX1_layCourse : ByteArray := prog_1_method_6_code
def yX1_layCourse : MethodName := ⟨RX1, "layCourse", "(IIIII)I"⟩
abbrev cX1_mend : ByteArray := prog_1_method_7_code
def yX1_mend : MethodName := ⟨RX1, "mend", "(III)I"⟩
abbrev cX1_bind : ByteArray := prog_1_method_8_code
def yX1_bind : MethodName := ⟨RX1, "bind", "(I)I"⟩
abbrev cX1_yealm : ByteArray := prog_1_method_9_code
def yX1_yealm : MethodName := ⟨RX1, "yealm", "(IIII)I"⟩
abbrev cX1_roof : ByteArray := prog_1_method_10_code
def yX1_roof : MethodName := ⟨RX1, "roof", "(II)I"⟩
abbrev cX1_count : ByteArray := prog_1_method_11_code
def yX1_count : MethodName := ⟨RX1, "count", "(I)I"⟩
abbrev cX1_pass : ByteArray := prog_1_method_12_code
def yX1_pass : MethodName := ⟨RX1, "pass", "(I)I"⟩
abbrev cX1_tears : ByteArray := prog_1_method_13_code
def yX1_tears : MethodName := ⟨RX1, "tears", "(II)I"⟩
abbrev cX1_holds : ByteArray := prog_1_method_14_code
def yX1_holds : MethodName := ⟨RX1, "holds", "(I)I"⟩
abbrev cX1_foresee : ByteArray := prog_1_method_15_code
def yX1_foresee : MethodName := ⟨RX1, "foresee", "(III)I"⟩
abbrev cX1_advise : ByteArray := prog_1_method_16_code
def yX1_advise : MethodName := ⟨RX1, "advise", "(II)I"⟩
abbrev cX1_needs : ByteArray := prog_1_method_17_code
def yX1_needs : MethodName := ⟨RX1, "needs", "(II)I"⟩
abbrev cX1_mean : ByteArray := prog_1_method_18_code
def yX1_mean : MethodName := ⟨RX1, "mean", "()D"⟩
abbrev cX1_digest : ByteArray := prog_1_method_19_code
def yX1_digest : MethodName := ⟨RX1, "digest", "()J"⟩
abbrev cX1_digestRoof : ByteArray := prog_1_method_20_code
def yX1_digestRoof : MethodName := ⟨RX1, "digestRoof", "(LThatchRoof$Roof;J)J"⟩
abbrev cX1_isWithin : ByteArray := prog_1_method_21_code
def yX1_isWithin : MethodName := ⟨RX1, "isWithin", "(III)Z"⟩
abbrev cX1_isYealm : ByteArray := prog_1_method_22_code
def yX1_isYealm : MethodName := ⟨RX1, "isYealm", "(II)Z"⟩
abbrev cX1_isKind : ByteArray := prog_1_method_23_code
def yX1_isKind : MethodName := ⟨RX1, "isKind", "(I)Z"⟩
abbrev cX1_bundlesFor : ByteArray := prog_1_method_24_code
def yX1_bundlesFor : MethodName := ⟨RX1, "bundlesFor", "(I)I"⟩
abbrev cX1_roofAt : ByteArray := prog_1_method_25_code
def yX1_roofAt : MethodName := ⟨RX1, "roofAt", "(I)LThatchRoof$Roof;"⟩
abbrev cX1_monthOfYear : ByteArray := prog_1_method_26_code
def yX1_monthOfYear : MethodName := ⟨RX1, "monthOfYear", "(I)I"⟩
abbrev cX1_rainAhead : ByteArray := prog_1_method_27_code
def yX1_rainAhead : MethodName := ⟨RX1, "rainAhead", "(I)I"⟩
abbrev cX1_stormAhead : ByteArray := prog_1_method_28_code
def yX1_stormAhead : MethodName := ⟨RX1, "stormAhead", "(I)I"⟩
abbrev cX1_tally : ByteArray := prog_1_method_29_code
def yX1_tally : MethodName := ⟨RX1, "tally", "(I)I"⟩
abbrev cX1_tallyOfRoofs : ByteArray := prog_1_method_30_code
def yX1_tallyOfRoofs : MethodName := ⟨RX1, "tallyOfRoofs", "(I)I"⟩
abbrev cX1_lostAt : ByteArray := prog_1_method_31_code
def yX1_lostAt : MethodName := ⟨RX1, "lostAt", "(LThatchRoof$Roof;III)I"⟩
def RX2 : String := "ThatchRoofModel$State"
def TX2 : u_T := fun k => match k with
  | 0 => ("ThatchRoofModel$State", "month", "I", false)
  | 1 => ("ThatchRoofModel$State", "ridge", "[I", true)
  | 2 => ("ThatchRoofModel$State", "torn", "[I", true)
  | 3 => ("ThatchRoofModel$State", "worn", "[I", true)
  | 4 => ("ThatchRoofModel$State", "kind", "[I", true)
  | 5 => ("ThatchRoofModel$State", "thick", "[I", true)
  | 6 => ("ThatchRoofModel$State", "spars", "[I", true)
  | 7 => ("ThatchRoofModel$State", "moss", "[I", true)
  | 8 => ("ThatchRoofModel$State", "isGone", "[Z", true)
  | _ => ("ThatchRoofModel$State", "this$0", "LThatchRoofModel;", true)
def tyX2 : Nat → FieldType := fun k => match k with
  | 0 => .int
  | 1 => .array .int
  | 2 => .array .int
  | 3 => .array .int
  | 4 => .array .int
  | 5 => .array .int
  | 6 => .array .int
  | 7 => .array .int
  | 8 => .array .boolean
  | _ => .object "ThatchRoofModel"
abbrev wsX20 : List Cond := u_ws RX2 TX2 10
theorem nmX2 : ∀ a, a < 10 → ∀ b, b < 10 → a ≠ b → (TX2 a).2.1 ≠ (TX2 b).2.1 := by decide +kernel
theorem tyX2_ok : ∀ k, k < 10 → parseFieldDescriptor (TX2 k).2.2.1 = some (tyX2 k) := by decide +kernel
abbrev cX2_init : ByteArray := prog_5_method_1_code
def yX2_init : MethodName := ⟨RX2, "<init>", "(LThatchRoofModel;)V"⟩
abbrev cX2_copy : ByteArray := prog_5_method_2_code
def yX2_copy : MethodName := ⟨RX2, "copy", "([I[I)V"⟩
abbrev cX2_become : ByteArray := prog_5_method_3_code
def yX2_become : MethodName := ⟨RX2, "become", "(LThatchRoofModel$State;)V"⟩
abbrev cX2_isThere : ByteArray := prog_5_method_4_code
def yX2_isThere : MethodName := ⟨RX2, "isThere", "(III)Z"⟩
abbrev cX2_isBare : ByteArray := prog_5_method_5_code
def yX2_isBare : MethodName := ⟨RX2, "isBare", "(III)Z"⟩
abbrev cX2_put : ByteArray := prog_5_method_6_code
def yX2_put : MethodName := ⟨RX2, "put", "(IIII)V"⟩
abbrev cX2_mend : ByteArray := prog_5_method_7_code
def yX2_mend : MethodName := ⟨RX2, "mend", "(I)V"⟩
abbrev cX2_thinned : ByteArray := prog_5_method_8_code
def yX2_thinned : MethodName := ⟨RX2, "thinned", "(IIII)I"⟩
abbrev cX2_isTorn : ByteArray := prog_5_method_9_code
def yX2_isTorn : MethodName := ⟨RX2, "isTorn", "(IIII)Z"⟩
abbrev cX2_clear : ByteArray := prog_5_method_10_code
def yX2_clear : MethodName := ⟨RX2, "clear", "(I)I"⟩
abbrev cX2_pass : ByteArray := prog_5_method_11_code
def yX2_pass : MethodName := ⟨RX2, "pass", "(II)V"⟩
abbrev cX2_yealms : ByteArray := prog_5_method_12_code
def yX2_yealms : MethodName := ⟨RX2, "yealms", "(I)I"⟩
abbrev cX2_thickness : ByteArray := prog_5_method_13_code
def yX2_thickness : MethodName := ⟨RX2, "thickness", "(I)I"⟩
abbrev cX2_leaks : ByteArray := prog_5_method_14_code
def yX2_leaks : MethodName := ⟨RX2, "leaks", "(I)I"⟩
def RX3 : String := "ThatchRoofModel"
def TX3 : u_T := fun k => match k with
  | 0 => ("ThatchRoofModel", "thrown", "I", false)
  | 1 => ("ThatchRoofModel", "roofs", "I", false)
  | 2 => ("ThatchRoofModel", "width", "[I", true)
  | 3 => ("ThatchRoofModel", "courses", "[I", true)
  | 4 => ("ThatchRoofModel", "slope", "[I", true)
  | 5 => ("ThatchRoofModel", "rain", "[I", true)
  | 6 => ("ThatchRoofModel", "storm", "[I", true)
  | 7 => ("ThatchRoofModel", "barn", "[I", true)
  | 8 => ("ThatchRoofModel", "s", "LThatchRoofModel$State;", true)
  | _ => ("ThatchRoofModel", "ahead", "LThatchRoofModel$State;", true)
def tyX3 : Nat → FieldType := fun k => match k with
  | 0 => .int
  | 1 => .int
  | 2 => .array .int
  | 3 => .array .int
  | 4 => .array .int
  | 5 => .array .int
  | 6 => .array .int
  | 7 => .array .int
  | 8 => .object "ThatchRoofModel$State"
  | _ => .object "ThatchRoofModel$State"
abbrev wsX30 : List Cond := u_ws RX3 TX3 10
theorem nmX3 : ∀ a, a < 10 → ∀ b, b < 10 → a ≠ b → (TX3 a).2.1 ≠ (TX3 b).2.1 := by decide +kernel
theorem tyX3_ok : ∀ k, k < 10 → parseFieldDescriptor (TX3 k).2.2.1 = some (tyX3 k) := by decide +kernel
abbrev cX3_init : ByteArray := prog_4_method_1_code
def yX3_init : MethodName := ⟨RX3, "<init>", "()V"⟩
abbrev cX3_no : ByteArray := prog_4_method_3_code
def yX3_no : MethodName := ⟨RX3, "no", "(I)I"⟩
abbrev cX3_isIn : ByteArray := prog_4_method_4_code
def yX3_isIn : MethodName := ⟨RX3, "isIn", "(III)Z"⟩
abbrev cX3_cell : ByteArray := prog_4_method_5_code
def yX3_cell : MethodName := ⟨RX3, "cell", "(III)I"⟩
abbrev cX3_isRoof : ByteArray := prog_4_method_6_code
def yX3_isRoof : MethodName := ⟨RX3, "isRoof", "(I)Z"⟩
abbrev cX3_isCourse : ByteArray := prog_4_method_7_code
def yX3_isCourse : MethodName := ⟨RX3, "isCourse", "(II)Z"⟩
abbrev cX3_isPlace : ByteArray := prog_4_method_8_code
def yX3_isPlace : MethodName := ⟨RX3, "isPlace", "(III)Z"⟩
abbrev cX3_build : ByteArray := prog_4_method_9_code
def yX3_build : MethodName := ⟨RX3, "build", "(III)I"⟩
abbrev cX3_bring : ByteArray := prog_4_method_10_code
def yX3_bring : MethodName := ⟨RX3, "bring", "(II)I"⟩
abbrev cX3_setWeather : ByteArray := prog_4_method_11_code
def yX3_setWeather : MethodName := ⟨RX3, "setWeather", "(III)I"⟩
abbrev cX3_bundles : ByteArray := prog_4_method_12_code
def yX3_bundles : MethodName := ⟨RX3, "bundles", "(I)I"⟩
abbrev cX3_isFree : ByteArray := prog_4_method_13_code
def yX3_isFree : MethodName := ⟨RX3, "isFree", "(III)Z"⟩
abbrev cX3_lay : ByteArray := prog_4_method_14_code
def yX3_lay : MethodName := ⟨RX3, "lay", "(IIIIII)I"⟩
abbrev cX3_layCourse : ByteArray := prog_4_method_15_code
def yX3_layCourse : MethodName := ⟨RX3, "layCourse", "(IIIII)I"⟩
abbrev cX3_mend : ByteArray := prog_4_method_16_code
def yX3_mend : MethodName := ⟨RX3, "mend", "(III)I"⟩
abbrev cX3_bind : ByteArray := prog_4_method_17_code
def yX3_bind : MethodName := ⟨RX3, "bind", "(I)I"⟩
abbrev cX3_yealmTold : ByteArray := prog_4_method_18_code
def yX3_yealmTold : MethodName := ⟨RX3, "yealmTold", "(IIII)I"⟩
abbrev cX3_yealm : ByteArray := prog_4_method_19_code
def yX3_yealm : MethodName := ⟨RX3, "yealm", "(IIII)I"⟩
abbrev cX3_roofTold : ByteArray := prog_4_method_20_code
def yX3_roofTold : MethodName := ⟨RX3, "roofTold", "(II)I"⟩
abbrev cX3_roof : ByteArray := prog_4_method_21_code
def yX3_roof : MethodName := ⟨RX3, "roof", "(II)I"⟩
abbrev cX3_counted : ByteArray := prog_4_method_22_code
def yX3_counted : MethodName := ⟨RX3, "counted", "(I)I"⟩
abbrev cX3_count : ByteArray := prog_4_method_23_code
def yX3_count : MethodName := ⟨RX3, "count", "(I)I"⟩
abbrev cX3_pass : ByteArray := prog_4_method_24_code
def yX3_pass : MethodName := ⟨RX3, "pass", "(I)I"⟩
abbrev cX3_tears : ByteArray := prog_4_method_25_code
def yX3_tears : MethodName := ⟨RX3, "tears", "(II)I"⟩
abbrev cX3_holds : ByteArray := prog_4_method_26_code
def yX3_holds : MethodName := ⟨RX3, "holds", "(I)I"⟩
abbrev cX3_foresee : ByteArray := prog_4_method_27_code
def yX3_foresee : MethodName := ⟨RX3, "foresee", "(III)I"⟩
abbrev cX3_left : ByteArray := prog_4_method_28_code
def yX3_left : MethodName := ⟨RX3, "left", "(III)I"⟩
abbrev cX3_advise : ByteArray := prog_4_method_29_code
def yX3_advise : MethodName := ⟨RX3, "advise", "(II)I"⟩
abbrev cX3_needs : ByteArray := prog_4_method_30_code
def yX3_needs : MethodName := ⟨RX3, "needs", "(II)I"⟩
abbrev cX3_mean : ByteArray := prog_4_method_31_code
def yX3_mean : MethodName := ⟨RX3, "mean", "()D"⟩
abbrev cX3_digest : ByteArray := prog_4_method_32_code
def yX3_digest : MethodName := ⟨RX3, "digest", "()J"⟩
def RJ9 : String := "java/lang/Math"
abbrev cJ9_floorMod_7cf53 : ByteArray := prog_10_method_50_code
def yJ9_floorMod_7cf53 : MethodName := ⟨RJ9, "floorMod", "(II)I"⟩
def RL : String := "ThatchRoofLaw"
abbrev cL_build : ByteArray := method_3_code
def yL_build : MethodName := ⟨RL, "build", "(LThatchRoof;III[J)I"⟩
abbrev cL_bring : ByteArray := method_4_code
def yL_bring : MethodName := ⟨RL, "bring", "(LThatchRoof;II[J)I"⟩
abbrev cL_setWeather : ByteArray := method_5_code
def yL_setWeather : MethodName := ⟨RL, "setWeather", "(LThatchRoof;III[J)I"⟩
abbrev cL_lay : ByteArray := method_6_code
def yL_lay : MethodName := ⟨RL, "lay", "(LThatchRoof;IIIIII[J)I"⟩
abbrev cL_layCourse : ByteArray := method_7_code
def yL_layCourse : MethodName := ⟨RL, "layCourse", "(LThatchRoof;IIIII[J)I"⟩
abbrev cL_mend : ByteArray := method_8_code
def yL_mend : MethodName := ⟨RL, "mend", "(LThatchRoof;III[J)I"⟩
abbrev cL_bind : ByteArray := method_9_code
def yL_bind : MethodName := ⟨RL, "bind", "(LThatchRoof;I[J)I"⟩
abbrev cL_yealm : ByteArray := method_10_code
def yL_yealm : MethodName := ⟨RL, "yealm", "(LThatchRoof;IIII[J)I"⟩
abbrev cL_roof : ByteArray := method_11_code
def yL_roof : MethodName := ⟨RL, "roof", "(LThatchRoof;II[J)I"⟩
abbrev cL_count : ByteArray := method_12_code
def yL_count : MethodName := ⟨RL, "count", "(LThatchRoof;I[J)I"⟩
abbrev cL_pass : ByteArray := method_13_code
def yL_pass : MethodName := ⟨RL, "pass", "(LThatchRoof;I[J)I"⟩
abbrev cL_tears : ByteArray := method_14_code
def yL_tears : MethodName := ⟨RL, "tears", "(LThatchRoof;II[J)I"⟩
abbrev cL_holds : ByteArray := method_15_code
def yL_holds : MethodName := ⟨RL, "holds", "(LThatchRoof;I[J)I"⟩
abbrev cL_foresee : ByteArray := method_16_code
def yL_foresee : MethodName := ⟨RL, "foresee", "(LThatchRoof;III[J)I"⟩
abbrev cL_advise : ByteArray := method_17_code
def yL_advise : MethodName := ⟨RL, "advise", "(LThatchRoof;II[J)I"⟩
abbrev cL_needs : ByteArray := method_18_code
def yL_needs : MethodName := ⟨RL, "needs", "(LThatchRoof;II[J)I"⟩
abbrev cL_law : ByteArray := code
def wsX0_init : List Cond := .code yX0_init cX0_init 4 none :: ([.methodLink RX0 3 objectInit, .instanceMethod objectInit, .code objectInit ⟨#[0xb1]⟩ 1 none, .arrayClass .int, .fieldLink RX0 9 "ThatchRoof$Roof" "kinds" "[I", .fieldLink RX0 15 "ThatchRoof$Roof" "thicknesses" "[I", .fieldLink RX0 18 "ThatchRoof$Roof" "spars" "[I", .fieldLink RX0 21 "ThatchRoof$Roof" "mosses" "[I", .fieldLink RX0 24 "ThatchRoof$Roof" "width" "I", .fieldLink RX0 28 "ThatchRoof$Roof" "courses" "I", .fieldLink RX0 31 "ThatchRoof$Roof" "slope" "I", .fieldLink RX0 34 "ThatchRoof$Roof" "ridge" "I"] ++ wsX00)
def wsX0_wide : List Cond := .code yX0_wide cX0_wide 1 (some .int) :: ([.fieldLink RX0 24 "ThatchRoof$Roof" "width" "I"] ++ wsX00)
def wsX0_high : List Cond := .code yX0_high cX0_high 1 (some .int) :: ([.fieldLink RX0 28 "ThatchRoof$Roof" "courses" "I"] ++ wsX00)
def wsX0_thicknessAt : List Cond := .code yX0_thicknessAt cX0_thicknessAt 3 (some .int) :: ([.fieldLink RX0 28 "ThatchRoof$Roof" "courses" "I", .fieldLink RX0 24 "ThatchRoof$Roof" "width" "I", .fieldLink RX0 15 "ThatchRoof$Roof" "thicknesses" "[I"] ++ wsX00)
def wsX0_hasYealm : List Cond := .code yX0_hasYealm cX0_hasYealm 3 (some .boolean) :: ([.methodLink RX0 47 yX0_thicknessAt, .instanceMethod yX0_thicknessAt, .selects RX0 yX0_thicknessAt yX0_thicknessAt, .initialized RX0, .code yX0_thicknessAt cX0_thicknessAt 3 (some .int), .fieldLink RX0 28 "ThatchRoof$Roof" "courses" "I", .fieldLink RX0 24 "ThatchRoof$Roof" "width" "I", .fieldLink RX0 15 "ThatchRoof$Roof" "thicknesses" "[I"] ++ wsX00)
def wsX0_tellYealm_r1 : List Cond := [Cond.fieldLink RX0 9 "ThatchRoof$Roof" "kinds" "[I", Cond.fieldLink RX0 15 "ThatchRoof$Roof" "thicknesses" "[I", Cond.fieldLink RX0 18 "ThatchRoof$Roof" "spars" "[I", Cond.fieldLink RX0 21 "ThatchRoof$Roof" "mosses" "[I", Cond.methodLink RX0 51 yX0_hasYealm, Cond.instanceMethod yX0_hasYealm, Cond.selects RX0 yX0_hasYealm yX0_hasYealm, Cond.initialized RX0, Cond.code yX0_hasYealm cX0_hasYealm 3 (some .boolean), Cond.methodLink RX0 47 yX0_thicknessAt, Cond.instanceMethod yX0_thicknessAt, Cond.selects RX0 yX0_thicknessAt yX0_thicknessAt, Cond.code yX0_thicknessAt cX0_thicknessAt 3 (some .int), Cond.fieldLink RX0 28 "ThatchRoof$Roof" "courses" "I", Cond.fieldLink RX0 24 "ThatchRoof$Roof" "width" "I", Cond.methodLink RX0 61 yX0_numberOf, Cond.instanceMethod yX0_numberOf, Cond.selects RX0 yX0_numberOf yX0_numberOf, Cond.code yX0_numberOf cX0_numberOf 3 (some .int), Cond.methodLink RX0 69 yX0_isBare, Cond.instanceMethod yX0_isBare, Cond.selects RX0 yX0_isBare yX0_isBare, Cond.code yX0_isBare cX0_isBare 3 (some .boolean), Cond.methodLink RX0 55 yX0_isHighest]
def wsX0_tellYealm_r2 : List Cond := [Cond.instanceMethod yX0_isHighest, Cond.selects RX0 yX0_isHighest yX0_isHighest, Cond.code yX0_isHighest cX0_isHighest 2 (some .boolean)]
def wsX0_tellYealm : List Cond := .code yX0_tellYealm cX0_tellYealm 5 (some .int) :: ((wsX0_tellYealm_r1 ++ wsX0_tellYealm_r2) ++ wsX00)
def wsX0_yealms : List Cond := .code yX0_yealms cX0_yealms 4 (some .int) :: ([.fieldLink RX0 28 "ThatchRoof$Roof" "courses" "I", .fieldLink RX0 24 "ThatchRoof$Roof" "width" "I", .methodLink RX0 51 yX0_hasYealm, .instanceMethod yX0_hasYealm, .selects RX0 yX0_hasYealm yX0_hasYealm, .initialized RX0, .code yX0_hasYealm cX0_hasYealm 3 (some .boolean), .methodLink RX0 47 yX0_thicknessAt, .instanceMethod yX0_thicknessAt, .selects RX0 yX0_thicknessAt yX0_thicknessAt, .code yX0_thicknessAt cX0_thicknessAt 3 (some .int), .fieldLink RX0 15 "ThatchRoof$Roof" "thicknesses" "[I"] ++ wsX00)
def wsX0_thicknessOver : List Cond := .code yX0_thicknessOver cX0_thicknessOver 4 (some .int) :: ([.fieldLink RX0 28 "ThatchRoof$Roof" "courses" "I", .methodLink RX0 47 yX0_thicknessAt, .instanceMethod yX0_thicknessAt, .selects RX0 yX0_thicknessAt yX0_thicknessAt, .initialized RX0, .code yX0_thicknessAt cX0_thicknessAt 3 (some .int), .fieldLink RX0 24 "ThatchRoof$Roof" "width" "I", .fieldLink RX0 15 "ThatchRoof$Roof" "thicknesses" "[I"] ++ wsX00)
def wsX0_thicknessInAll : List Cond := .code yX0_thicknessInAll cX0_thicknessInAll 3 (some .int) :: ([.fieldLink RX0 24 "ThatchRoof$Roof" "width" "I", .methodLink RX0 88 yX0_thicknessOver, .instanceMethod yX0_thicknessOver, .selects RX0 yX0_thicknessOver yX0_thicknessOver, .initialized RX0, .code yX0_thicknessOver cX0_thicknessOver 4 (some .int), .fieldLink RX0 28 "ThatchRoof$Roof" "courses" "I", .methodLink RX0 47 yX0_thicknessAt, .instanceMethod yX0_thicknessAt, .selects RX0 yX0_thicknessAt yX0_thicknessAt, .code yX0_thicknessAt cX0_thicknessAt 3 (some .int), .fieldLink RX0 15 "ThatchRoof$Roof" "thicknesses" "[I"] ++ wsX00)
def wsX0_leaks : List Cond := .code yX0_leaks cX0_leaks 3 (some .int) :: ([.fieldLink RX0 24 "ThatchRoof$Roof" "width" "I", .fieldLink RX0 28 "ThatchRoof$Roof" "courses" "I", .methodLink RX0 88 yX0_thicknessOver, .instanceMethod yX0_thicknessOver, .selects RX0 yX0_thicknessOver yX0_thicknessOver, .initialized RX0, .code yX0_thicknessOver cX0_thicknessOver 4 (some .int), .methodLink RX0 47 yX0_thicknessAt, .instanceMethod yX0_thicknessAt, .selects RX0 yX0_thicknessAt yX0_thicknessAt, .code yX0_thicknessAt cX0_thicknessAt 3 (some .int), .fieldLink RX0 15 "ThatchRoof$Roof" "thicknesses" "[I", .methodLink RX0 51 yX0_hasYealm, .instanceMethod yX0_hasYealm, .selects RX0 yX0_hasYealm yX0_hasYealm, .code yX0_hasYealm cX0_hasYealm 3 (some .boolean)] ++ wsX00)
def wsX0_tell_r1 : List Cond := [Cond.fieldLink RX0 24 "ThatchRoof$Roof" "width" "I", Cond.fieldLink RX0 28 "ThatchRoof$Roof" "courses" "I", Cond.fieldLink RX0 31 "ThatchRoof$Roof" "slope" "I", Cond.fieldLink RX0 34 "ThatchRoof$Roof" "ridge" "I", Cond.fieldLink RX0 82 "ThatchRoof$Roof" "torn" "I", Cond.fieldLink RX0 85 "ThatchRoof$Roof" "worn" "I", Cond.methodLink RX0 72 yX0_yealms, Cond.instanceMethod yX0_yealms, Cond.selects RX0 yX0_yealms yX0_yealms, Cond.initialized RX0, Cond.code yX0_yealms cX0_yealms 4 (some .int), Cond.methodLink RX0 51 yX0_hasYealm, Cond.instanceMethod yX0_hasYealm, Cond.selects RX0 yX0_hasYealm yX0_hasYealm, Cond.code yX0_hasYealm cX0_hasYealm 3 (some .boolean), Cond.methodLink RX0 47 yX0_thicknessAt, Cond.instanceMethod yX0_thicknessAt, Cond.selects RX0 yX0_thicknessAt yX0_thicknessAt, Cond.code yX0_thicknessAt cX0_thicknessAt 3 (some .int), Cond.fieldLink RX0 15 "ThatchRoof$Roof" "thicknesses" "[I", Cond.methodLink RX0 76 yX0_thicknessInAll, Cond.instanceMethod yX0_thicknessInAll, Cond.selects RX0 yX0_thicknessInAll yX0_thicknessInAll, Cond.code yX0_thicknessInAll cX0_thicknessInAll 3 (some .int)]
def wsX0_tell_r2 : List Cond := [Cond.methodLink RX0 88 yX0_thicknessOver, Cond.instanceMethod yX0_thicknessOver, Cond.selects RX0 yX0_thicknessOver yX0_thicknessOver, Cond.code yX0_thicknessOver cX0_thicknessOver 4 (some .int), Cond.methodLink RX0 79 yX0_leaks, Cond.instanceMethod yX0_leaks, Cond.selects RX0 yX0_leaks yX0_leaks, Cond.code yX0_leaks cX0_leaks 3 (some .int)]
def wsX0_tell : List Cond := .code yX0_tell cX0_tell 2 (some .int) :: ((wsX0_tell_r1 ++ wsX0_tell_r2) ++ wsX00)
def wsX1_init : List Cond := .code yX1_init cX1_init 2 none :: ([.methodLink RX1 3 objectInit, .instanceMethod objectInit, .code objectInit ⟨#[0xb1]⟩ 1 none, .classLink RX1 9 RX0, .fieldLink RX1 11 "ThatchRoof" "roofs" "[LThatchRoof$Roof;", .arrayClass .int, .fieldLink RX1 15 "ThatchRoof" "barn" "[I", .fieldLink RX1 19 "ThatchRoof" "rains" "[I", .fieldLink RX1 22 "ThatchRoof" "storms" "[I", .instantiable RX0 10, .initialized RX0, .fieldLink RX1 28 "ThatchRoof" "trial" "LThatchRoof$Roof;", .methodLink RX1 25 yX0_init, .instanceMethod yX0_init, .code yX0_init cX0_init 4 none, .methodLink RX0 3 objectInit, .fieldLink RX0 9 "ThatchRoof$Roof" "kinds" "[I", .fieldLink RX0 15 "ThatchRoof$Roof" "thicknesses" "[I", .fieldLink RX0 18 "ThatchRoof$Roof" "spars" "[I", .fieldLink RX0 21 "ThatchRoof$Roof" "mosses" "[I", .fieldLink RX0 24 "ThatchRoof$Roof" "width" "I", .fieldLink RX0 28 "ThatchRoof$Roof" "courses" "I", .fieldLink RX0 31 "ThatchRoof$Roof" "slope" "I", .fieldLink RX0 34 "ThatchRoof$Roof" "ridge" "I"] ++ wsX10 ++ wsX00)
def wsX1_isWithin : List Cond := .code yX1_isWithin cX1_isWithin 3 (some .boolean) :: ([])
def wsX1_build_r1 : List Cond := [Cond.classLink RX1 36 "java/lang/IllegalArgumentException", Cond.initialized "java/lang/IllegalArgumentException", Cond.classLink RX1 47 "java/lang/IllegalStateException", Cond.initialized "java/lang/IllegalStateException", Cond.fieldLink RX1 43 "ThatchRoof" "built" "I", Cond.fieldLink RX1 11 "ThatchRoof" "roofs" "[LThatchRoof$Roof;", Cond.classLink RX1 9 RX0, Cond.instantiable RX0 10, Cond.initialized RX0, Cond.methodLink RX1 32 yX1_isWithin, Cond.static yX1_isWithin, Cond.initialized RX1, Cond.code yX1_isWithin cX1_isWithin 3 (some .boolean), Cond.methodLink RX1 25 yX0_init, Cond.instanceMethod yX0_init, Cond.code yX0_init cX0_init 4 none, Cond.methodLink RX0 3 objectInit, Cond.instanceMethod objectInit, Cond.code objectInit ⟨#[0xb1]⟩ 1 none, Cond.arrayClass .int, Cond.fieldLink RX0 9 "ThatchRoof$Roof" "kinds" "[I", Cond.fieldLink RX0 15 "ThatchRoof$Roof" "thicknesses" "[I", Cond.fieldLink RX0 18 "ThatchRoof$Roof" "spars" "[I", Cond.fieldLink RX0 21 "ThatchRoof$Roof" "mosses" "[I"]
def wsX1_build_r2 : List Cond := [Cond.fieldLink RX0 24 "ThatchRoof$Roof" "width" "I", Cond.fieldLink RX0 28 "ThatchRoof$Roof" "courses" "I", Cond.fieldLink RX0 31 "ThatchRoof$Roof" "slope" "I", Cond.fieldLink RX0 34 "ThatchRoof$Roof" "ridge" "I"]
def wsX1_build : List Cond := .code yX1_build cX1_build 5 (some .int) :: ((wsX1_build_r1 ++ wsX1_build_r2) ++ wsX10 ++ wsX00 ++ (vx_atS RX1 40 "java/lang/IllegalArgumentException" ["java/lang/RuntimeException", "java/lang/Exception"]).filter goodWord ++ (vx_atS RX1 51 "java/lang/IllegalStateException" ["java/lang/RuntimeException", "java/lang/Exception"]).filter goodWord)
def wsX1_tallyOfRoofs_r1 : List Cond := [Cond.fieldLink RX1 11 "ThatchRoof" "roofs" "[LThatchRoof$Roof;", Cond.methodLink RX1 136 yX0_tell, Cond.instanceMethod yX0_tell, Cond.selects RX0 yX0_tell yX0_tell, Cond.initialized RX0, Cond.code yX0_tell cX0_tell 2 (some .int), Cond.fieldLink RX0 24 "ThatchRoof$Roof" "width" "I", Cond.fieldLink RX0 28 "ThatchRoof$Roof" "courses" "I", Cond.fieldLink RX0 31 "ThatchRoof$Roof" "slope" "I", Cond.fieldLink RX0 34 "ThatchRoof$Roof" "ridge" "I", Cond.fieldLink RX0 82 "ThatchRoof$Roof" "torn" "I", Cond.fieldLink RX0 85 "ThatchRoof$Roof" "worn" "I", Cond.methodLink RX0 72 yX0_yealms, Cond.instanceMethod yX0_yealms, Cond.selects RX0 yX0_yealms yX0_yealms, Cond.code yX0_yealms cX0_yealms 4 (some .int), Cond.methodLink RX0 51 yX0_hasYealm, Cond.instanceMethod yX0_hasYealm, Cond.selects RX0 yX0_hasYealm yX0_hasYealm, Cond.code yX0_hasYealm cX0_hasYealm 3 (some .boolean), Cond.methodLink RX0 47 yX0_thicknessAt, Cond.instanceMethod yX0_thicknessAt, Cond.selects RX0 yX0_thicknessAt yX0_thicknessAt, Cond.code yX0_thicknessAt cX0_thicknessAt 3 (some .int)]
def wsX1_tallyOfRoofs_r2 : List Cond := [Cond.fieldLink RX0 15 "ThatchRoof$Roof" "thicknesses" "[I", Cond.methodLink RX0 76 yX0_thicknessInAll, Cond.instanceMethod yX0_thicknessInAll, Cond.selects RX0 yX0_thicknessInAll yX0_thicknessInAll, Cond.code yX0_thicknessInAll cX0_thicknessInAll 3 (some .int), Cond.methodLink RX0 88 yX0_thicknessOver, Cond.instanceMethod yX0_thicknessOver, Cond.selects RX0 yX0_thicknessOver yX0_thicknessOver, Cond.code yX0_thicknessOver cX0_thicknessOver 4 (some .int), Cond.methodLink RX0 79 yX0_leaks, Cond.instanceMethod yX0_leaks, Cond.selects RX0 yX0_leaks yX0_leaks, Cond.code yX0_leaks cX0_leaks 3 (some .int)]
def wsX1_tallyOfRoofs : List Cond := .code yX1_tallyOfRoofs cX1_tallyOfRoofs 5 (some .int) :: ((wsX1_tallyOfRoofs_r1 ++ wsX1_tallyOfRoofs_r2) ++ wsX10 ++ wsX00)
def wsJ9_floorMod_7cf53 : List Cond := .code yJ9_floorMod_7cf53 cJ9_floorMod_7cf53 3 (some .int) :: ([])
def wsX1_monthOfYear : List Cond := .code yX1_monthOfYear cX1_monthOfYear 2 (some .int) :: ([.fieldLink RX1 155 "ThatchRoof" "month" "I", .methodLink RX1 205 yJ9_floorMod_7cf53, .static yJ9_floorMod_7cf53, .initialized RJ9, .code yJ9_floorMod_7cf53 cJ9_floorMod_7cf53 3 (some .int)] ++ wsX10)
def wsX1_rainAhead : List Cond := .code yX1_rainAhead cX1_rainAhead 2 (some .int) :: ([.fieldLink RX1 19 "ThatchRoof" "rains" "[I", .methodLink RX1 210 yX1_monthOfYear, .instanceMethod yX1_monthOfYear, .selects RX1 yX1_monthOfYear yX1_monthOfYear, .initialized RX1, .code yX1_monthOfYear cX1_monthOfYear 2 (some .int), .fieldLink RX1 155 "ThatchRoof" "month" "I", .methodLink RX1 205 yJ9_floorMod_7cf53, .static yJ9_floorMod_7cf53, .initialized RJ9, .code yJ9_floorMod_7cf53 cJ9_floorMod_7cf53 3 (some .int)] ++ wsX10)
def wsX1_stormAhead : List Cond := .code yX1_stormAhead cX1_stormAhead 2 (some .int) :: ([.fieldLink RX1 22 "ThatchRoof" "storms" "[I", .methodLink RX1 210 yX1_monthOfYear, .instanceMethod yX1_monthOfYear, .selects RX1 yX1_monthOfYear yX1_monthOfYear, .initialized RX1, .code yX1_monthOfYear cX1_monthOfYear 2 (some .int), .fieldLink RX1 155 "ThatchRoof" "month" "I", .methodLink RX1 205 yJ9_floorMod_7cf53, .static yJ9_floorMod_7cf53, .initialized RJ9, .code yJ9_floorMod_7cf53 cJ9_floorMod_7cf53 3 (some .int)] ++ wsX10)
def wsX1_tally_r1 : List Cond := [Cond.fieldLink RX1 155 "ThatchRoof" "month" "I", Cond.fieldLink RX1 43 "ThatchRoof" "built" "I", Cond.fieldLink RX1 15 "ThatchRoof" "barn" "[I", Cond.methodLink RX1 213 yX1_tallyOfRoofs, Cond.instanceMethod yX1_tallyOfRoofs, Cond.selects RX1 yX1_tallyOfRoofs yX1_tallyOfRoofs, Cond.initialized RX1, Cond.code yX1_tallyOfRoofs cX1_tallyOfRoofs 5 (some .int), Cond.fieldLink RX1 11 "ThatchRoof" "roofs" "[LThatchRoof$Roof;", Cond.methodLink RX1 136 yX0_tell, Cond.instanceMethod yX0_tell, Cond.selects RX0 yX0_tell yX0_tell, Cond.initialized RX0, Cond.code yX0_tell cX0_tell 2 (some .int), Cond.fieldLink RX0 24 "ThatchRoof$Roof" "width" "I", Cond.fieldLink RX0 28 "ThatchRoof$Roof" "courses" "I", Cond.fieldLink RX0 31 "ThatchRoof$Roof" "slope" "I", Cond.fieldLink RX0 34 "ThatchRoof$Roof" "ridge" "I", Cond.fieldLink RX0 82 "ThatchRoof$Roof" "torn" "I", Cond.fieldLink RX0 85 "ThatchRoof$Roof" "worn" "I", Cond.methodLink RX0 72 yX0_yealms, Cond.instanceMethod yX0_yealms, Cond.selects RX0 yX0_yealms yX0_yealms, Cond.code yX0_yealms cX0_yealms 4 (some .int)]
def wsX1_tally_r2 : List Cond := [Cond.methodLink RX0 51 yX0_hasYealm, Cond.instanceMethod yX0_hasYealm, Cond.selects RX0 yX0_hasYealm yX0_hasYealm, Cond.code yX0_hasYealm cX0_hasYealm 3 (some .boolean), Cond.methodLink RX0 47 yX0_thicknessAt, Cond.instanceMethod yX0_thicknessAt, Cond.selects RX0 yX0_thicknessAt yX0_thicknessAt, Cond.code yX0_thicknessAt cX0_thicknessAt 3 (some .int), Cond.fieldLink RX0 15 "ThatchRoof$Roof" "thicknesses" "[I", Cond.methodLink RX0 76 yX0_thicknessInAll, Cond.instanceMethod yX0_thicknessInAll, Cond.selects RX0 yX0_thicknessInAll yX0_thicknessInAll, Cond.code yX0_thicknessInAll cX0_thicknessInAll 3 (some .int), Cond.methodLink RX0 88 yX0_thicknessOver, Cond.instanceMethod yX0_thicknessOver, Cond.selects RX0 yX0_thicknessOver yX0_thicknessOver, Cond.code yX0_thicknessOver cX0_thicknessOver 4 (some .int), Cond.methodLink RX0 79 yX0_leaks, Cond.instanceMethod yX0_leaks, Cond.selects RX0 yX0_leaks yX0_leaks, Cond.code yX0_leaks cX0_leaks 3 (some .int), Cond.methodLink RX1 146 yX1_rainAhead, Cond.instanceMethod yX1_rainAhead, Cond.selects RX1 yX1_rainAhead yX1_rainAhead]
def wsX1_tally_r3 : List Cond := [Cond.code yX1_rainAhead cX1_rainAhead 2 (some .int), Cond.fieldLink RX1 19 "ThatchRoof" "rains" "[I", Cond.methodLink RX1 210 yX1_monthOfYear, Cond.instanceMethod yX1_monthOfYear, Cond.selects RX1 yX1_monthOfYear yX1_monthOfYear, Cond.code yX1_monthOfYear cX1_monthOfYear 2 (some .int), Cond.methodLink RX1 205 yJ9_floorMod_7cf53, Cond.static yJ9_floorMod_7cf53, Cond.initialized RJ9, Cond.code yJ9_floorMod_7cf53 cJ9_floorMod_7cf53 3 (some .int), Cond.methodLink RX1 149 yX1_stormAhead, Cond.instanceMethod yX1_stormAhead, Cond.selects RX1 yX1_stormAhead yX1_stormAhead, Cond.code yX1_stormAhead cX1_stormAhead 2 (some .int), Cond.fieldLink RX1 22 "ThatchRoof" "storms" "[I"]
def wsX1_tally : List Cond := .code yX1_tally cX1_tally 2 (some .int) :: ((wsX1_tally_r1 ++ (wsX1_tally_r2 ++ wsX1_tally_r3)) ++ wsX10 ++ wsX00)
def wsX1_digestRoof_r1 : List Cond := [Cond.constantLong RX1 199 (31), Cond.methodLink RX1 136 yX0_tell, Cond.instanceMethod yX0_tell, Cond.selects RX0 yX0_tell yX0_tell, Cond.initialized RX0, Cond.code yX0_tell cX0_tell 2 (some .int), Cond.fieldLink RX0 24 "ThatchRoof$Roof" "width" "I", Cond.fieldLink RX0 28 "ThatchRoof$Roof" "courses" "I", Cond.fieldLink RX0 31 "ThatchRoof$Roof" "slope" "I", Cond.fieldLink RX0 34 "ThatchRoof$Roof" "ridge" "I", Cond.fieldLink RX0 82 "ThatchRoof$Roof" "torn" "I", Cond.fieldLink RX0 85 "ThatchRoof$Roof" "worn" "I", Cond.methodLink RX0 72 yX0_yealms, Cond.instanceMethod yX0_yealms, Cond.selects RX0 yX0_yealms yX0_yealms, Cond.code yX0_yealms cX0_yealms 4 (some .int), Cond.methodLink RX0 51 yX0_hasYealm, Cond.instanceMethod yX0_hasYealm, Cond.selects RX0 yX0_hasYealm yX0_hasYealm, Cond.code yX0_hasYealm cX0_hasYealm 3 (some .boolean), Cond.methodLink RX0 47 yX0_thicknessAt, Cond.instanceMethod yX0_thicknessAt, Cond.selects RX0 yX0_thicknessAt yX0_thicknessAt, Cond.code yX0_thicknessAt cX0_thicknessAt 3 (some .int)]
def wsX1_digestRoof_r2 : List Cond := [Cond.fieldLink RX0 15 "ThatchRoof$Roof" "thicknesses" "[I", Cond.methodLink RX0 76 yX0_thicknessInAll, Cond.instanceMethod yX0_thicknessInAll, Cond.selects RX0 yX0_thicknessInAll yX0_thicknessInAll, Cond.code yX0_thicknessInAll cX0_thicknessInAll 3 (some .int), Cond.methodLink RX0 88 yX0_thicknessOver, Cond.instanceMethod yX0_thicknessOver, Cond.selects RX0 yX0_thicknessOver yX0_thicknessOver, Cond.code yX0_thicknessOver cX0_thicknessOver 4 (some .int), Cond.methodLink RX0 79 yX0_leaks, Cond.instanceMethod yX0_leaks, Cond.selects RX0 yX0_leaks yX0_leaks, Cond.code yX0_leaks cX0_leaks 3 (some .int), Cond.methodLink RX1 186 yX0_high, Cond.instanceMethod yX0_high, Cond.selects RX0 yX0_high yX0_high, Cond.code yX0_high cX0_high 1 (some .int), Cond.methodLink RX1 102 yX0_wide, Cond.instanceMethod yX0_wide, Cond.selects RX0 yX0_wide yX0_wide, Cond.code yX0_wide cX0_wide 1 (some .int), Cond.methodLink RX1 130 yX0_tellYealm, Cond.instanceMethod yX0_tellYealm, Cond.selects RX0 yX0_tellYealm yX0_tellYealm]
def wsX1_digestRoof_r3 : List Cond := [Cond.code yX0_tellYealm cX0_tellYealm 5 (some .int), Cond.fieldLink RX0 9 "ThatchRoof$Roof" "kinds" "[I", Cond.fieldLink RX0 18 "ThatchRoof$Roof" "spars" "[I", Cond.fieldLink RX0 21 "ThatchRoof$Roof" "mosses" "[I", Cond.methodLink RX0 61 yX0_numberOf, Cond.instanceMethod yX0_numberOf, Cond.selects RX0 yX0_numberOf yX0_numberOf, Cond.code yX0_numberOf cX0_numberOf 3 (some .int), Cond.methodLink RX0 69 yX0_isBare, Cond.instanceMethod yX0_isBare, Cond.selects RX0 yX0_isBare yX0_isBare, Cond.code yX0_isBare cX0_isBare 3 (some .boolean), Cond.methodLink RX0 55 yX0_isHighest, Cond.instanceMethod yX0_isHighest, Cond.selects RX0 yX0_isHighest yX0_isHighest, Cond.code yX0_isHighest cX0_isHighest 2 (some .boolean)]
def wsX1_digestRoof : List Cond := .code yX1_digestRoof cX1_digestRoof 8 (some .long) :: ((wsX1_digestRoof_r1 ++ (wsX1_digestRoof_r2 ++ wsX1_digestRoof_r3)) ++ wsX00)
def wsX1_digest_r1 : List Cond := [Cond.constantLong RX1 197 (739), Cond.constantLong RX1 199 (31), Cond.fieldLink RX1 19 "ThatchRoof" "rains" "[I", Cond.fieldLink RX1 22 "ThatchRoof" "storms" "[I", Cond.fieldLink RX1 11 "ThatchRoof" "roofs" "[LThatchRoof$Roof;", Cond.methodLink RX1 141 yX1_tally, Cond.instanceMethod yX1_tally, Cond.selects RX1 yX1_tally yX1_tally, Cond.initialized RX1, Cond.code yX1_tally cX1_tally 2 (some .int), Cond.fieldLink RX1 155 "ThatchRoof" "month" "I", Cond.fieldLink RX1 43 "ThatchRoof" "built" "I", Cond.fieldLink RX1 15 "ThatchRoof" "barn" "[I", Cond.methodLink RX1 213 yX1_tallyOfRoofs, Cond.instanceMethod yX1_tallyOfRoofs, Cond.selects RX1 yX1_tallyOfRoofs yX1_tallyOfRoofs, Cond.code yX1_tallyOfRoofs cX1_tallyOfRoofs 5 (some .int), Cond.methodLink RX1 136 yX0_tell, Cond.instanceMethod yX0_tell, Cond.selects RX0 yX0_tell yX0_tell, Cond.initialized RX0, Cond.code yX0_tell cX0_tell 2 (some .int), Cond.fieldLink RX0 24 "ThatchRoof$Roof" "width" "I", Cond.fieldLink RX0 28 "ThatchRoof$Roof" "courses" "I"]
def wsX1_digest_r2 : List Cond := [Cond.fieldLink RX0 31 "ThatchRoof$Roof" "slope" "I", Cond.fieldLink RX0 34 "ThatchRoof$Roof" "ridge" "I", Cond.fieldLink RX0 82 "ThatchRoof$Roof" "torn" "I", Cond.fieldLink RX0 85 "ThatchRoof$Roof" "worn" "I", Cond.methodLink RX0 72 yX0_yealms, Cond.instanceMethod yX0_yealms, Cond.selects RX0 yX0_yealms yX0_yealms, Cond.code yX0_yealms cX0_yealms 4 (some .int), Cond.methodLink RX0 51 yX0_hasYealm, Cond.instanceMethod yX0_hasYealm, Cond.selects RX0 yX0_hasYealm yX0_hasYealm, Cond.code yX0_hasYealm cX0_hasYealm 3 (some .boolean), Cond.methodLink RX0 47 yX0_thicknessAt, Cond.instanceMethod yX0_thicknessAt, Cond.selects RX0 yX0_thicknessAt yX0_thicknessAt, Cond.code yX0_thicknessAt cX0_thicknessAt 3 (some .int), Cond.fieldLink RX0 15 "ThatchRoof$Roof" "thicknesses" "[I", Cond.methodLink RX0 76 yX0_thicknessInAll, Cond.instanceMethod yX0_thicknessInAll, Cond.selects RX0 yX0_thicknessInAll yX0_thicknessInAll, Cond.code yX0_thicknessInAll cX0_thicknessInAll 3 (some .int), Cond.methodLink RX0 88 yX0_thicknessOver, Cond.instanceMethod yX0_thicknessOver, Cond.selects RX0 yX0_thicknessOver yX0_thicknessOver]
def wsX1_digest_r3 : List Cond := [Cond.code yX0_thicknessOver cX0_thicknessOver 4 (some .int), Cond.methodLink RX0 79 yX0_leaks, Cond.instanceMethod yX0_leaks, Cond.selects RX0 yX0_leaks yX0_leaks, Cond.code yX0_leaks cX0_leaks 3 (some .int), Cond.methodLink RX1 146 yX1_rainAhead, Cond.instanceMethod yX1_rainAhead, Cond.selects RX1 yX1_rainAhead yX1_rainAhead, Cond.code yX1_rainAhead cX1_rainAhead 2 (some .int), Cond.methodLink RX1 210 yX1_monthOfYear, Cond.instanceMethod yX1_monthOfYear, Cond.selects RX1 yX1_monthOfYear yX1_monthOfYear, Cond.code yX1_monthOfYear cX1_monthOfYear 2 (some .int), Cond.methodLink RX1 205 yJ9_floorMod_7cf53, Cond.static yJ9_floorMod_7cf53, Cond.initialized RJ9, Cond.code yJ9_floorMod_7cf53 cJ9_floorMod_7cf53 3 (some .int), Cond.methodLink RX1 149 yX1_stormAhead, Cond.instanceMethod yX1_stormAhead, Cond.selects RX1 yX1_stormAhead yX1_stormAhead, Cond.code yX1_stormAhead cX1_stormAhead 2 (some .int), Cond.methodLink RX1 201 yX1_digestRoof, Cond.static yX1_digestRoof, Cond.code yX1_digestRoof cX1_digestRoof 8 (some .long)]
def wsX1_digest_r4 : List Cond := [Cond.methodLink RX1 186 yX0_high, Cond.instanceMethod yX0_high, Cond.selects RX0 yX0_high yX0_high, Cond.code yX0_high cX0_high 1 (some .int), Cond.methodLink RX1 102 yX0_wide, Cond.instanceMethod yX0_wide, Cond.selects RX0 yX0_wide yX0_wide, Cond.code yX0_wide cX0_wide 1 (some .int), Cond.methodLink RX1 130 yX0_tellYealm, Cond.instanceMethod yX0_tellYealm, Cond.selects RX0 yX0_tellYealm yX0_tellYealm, Cond.code yX0_tellYealm cX0_tellYealm 5 (some .int), Cond.fieldLink RX0 9 "ThatchRoof$Roof" "kinds" "[I", Cond.fieldLink RX0 18 "ThatchRoof$Roof" "spars" "[I", Cond.fieldLink RX0 21 "ThatchRoof$Roof" "mosses" "[I", Cond.methodLink RX0 61 yX0_numberOf, Cond.instanceMethod yX0_numberOf, Cond.selects RX0 yX0_numberOf yX0_numberOf, Cond.code yX0_numberOf cX0_numberOf 3 (some .int), Cond.methodLink RX0 69 yX0_isBare, Cond.instanceMethod yX0_isBare, Cond.selects RX0 yX0_isBare yX0_isBare, Cond.code yX0_isBare cX0_isBare 3 (some .boolean), Cond.methodLink RX0 55 yX0_isHighest]
def wsX1_digest_r5 : List Cond := [Cond.instanceMethod yX0_isHighest, Cond.selects RX0 yX0_isHighest yX0_isHighest, Cond.code yX0_isHighest cX0_isHighest 2 (some .boolean)]
def wsX1_digest : List Cond := .code yX1_digest cX1_digest 5 (some .long) :: ((wsX1_digest_r1 ++ (wsX1_digest_r2 ++ (wsX1_digest_r3 ++ (wsX1_digest_r4 ++ wsX1_digest_r5)))) ++ wsX10 ++ wsX00)
def wsX2_init : List Cond := .code yX2_init cX2_init 3 none :: ([.fieldLink RX2 3 "ThatchRoofModel$State" "this$0" "LThatchRoofModel;", .methodLink RX2 9 objectInit, .instanceMethod objectInit, .code objectInit ⟨#[0xb1]⟩ 1 none, .arrayClass .int, .fieldLink RX2 15 "ThatchRoofModel$State" "ridge" "[I", .fieldLink RX2 19 "ThatchRoofModel$State" "torn" "[I", .fieldLink RX2 22 "ThatchRoofModel$State" "worn" "[I", .fieldLink RX2 25 "ThatchRoofModel$State" "kind" "[I", .fieldLink RX2 28 "ThatchRoofModel$State" "thick" "[I", .fieldLink RX2 31 "ThatchRoofModel$State" "spars" "[I", .fieldLink RX2 34 "ThatchRoofModel$State" "moss" "[I", .arrayClass .boolean, .fieldLink RX2 37 "ThatchRoofModel$State" "isGone" "[Z"] ++ wsX20)
def wsX3_cell : List Cond := .code yX3_cell cX3_cell 3 (some .int) :: ([])
def wsX2_isThere : List Cond := .code yX2_isThere cX2_isThere 4 (some .boolean) :: ([.fieldLink RX2 25 "ThatchRoofModel$State" "kind" "[I", .static yX3_cell, .initialized RX3, .code yX3_cell cX3_cell 3 (some .int)] ++ wsX20)
def wsX2_isBare : List Cond := .code yX2_isBare cX2_isBare 4 (some .boolean) :: ([.fieldLink RX2 3 "ThatchRoofModel$State" "this$0" "LThatchRoofModel;", .methodLink RX2 59 yX2_isThere, .instanceMethod yX2_isThere, .selects RX2 yX2_isThere yX2_isThere, .initialized RX2, .code yX2_isThere cX2_isThere 4 (some .boolean), .fieldLink RX2 25 "ThatchRoofModel$State" "kind" "[I", .static yX3_cell, .initialized RX3, .code yX3_cell cX3_cell 3 (some .int)] ++ wsX20 ++ wsX30)
def wsX2_yealms : List Cond := .code yX2_yealms cX2_yealms 4 (some .int) :: ([.fieldLink RX2 25 "ThatchRoofModel$State" "kind" "[I"] ++ wsX20)
def wsX2_thickness : List Cond := .code yX2_thickness cX2_thickness 4 (some .int) :: ([.fieldLink RX2 28 "ThatchRoofModel$State" "thick" "[I"] ++ wsX20)
def wsX2_leaks : List Cond := .code yX2_leaks cX2_leaks 6 (some .int) :: ([.fieldLink RX2 3 "ThatchRoofModel$State" "this$0" "LThatchRoofModel;", .fieldLink RX2 28 "ThatchRoofModel$State" "thick" "[I", .static yX3_cell, .initialized RX3, .code yX3_cell cX3_cell 3 (some .int), .methodLink RX2 59 yX2_isThere, .instanceMethod yX2_isThere, .selects RX2 yX2_isThere yX2_isThere, .initialized RX2, .code yX2_isThere cX2_isThere 4 (some .boolean), .fieldLink RX2 25 "ThatchRoofModel$State" "kind" "[I"] ++ wsX20 ++ wsX30)
def wsX3_init_r1 : List Cond := [Cond.methodLink RX3 1 objectInit, Cond.instanceMethod objectInit, Cond.code objectInit ⟨#[0xb1]⟩ 1 none, Cond.arrayClass .int, Cond.fieldLink RX3 9 "ThatchRoofModel" "width" "[I", Cond.fieldLink RX3 13 "ThatchRoofModel" "courses" "[I", Cond.fieldLink RX3 16 "ThatchRoofModel" "slope" "[I", Cond.fieldLink RX3 19 "ThatchRoofModel" "rain" "[I", Cond.fieldLink RX3 22 "ThatchRoofModel" "storm" "[I", Cond.fieldLink RX3 25 "ThatchRoofModel" "barn" "[I", Cond.classLink RX3 28 RX2, Cond.instantiable RX2 10, Cond.initialized RX2, Cond.fieldLink RX3 33 "ThatchRoofModel" "s" "LThatchRoofModel$State;", Cond.fieldLink RX3 37 "ThatchRoofModel" "ahead" "LThatchRoofModel$State;", Cond.methodLink RX3 30 yX2_init, Cond.instanceMethod yX2_init, Cond.code yX2_init cX2_init 3 none, Cond.fieldLink RX2 3 "ThatchRoofModel$State" "this$0" "LThatchRoofModel;", Cond.methodLink RX2 9 objectInit, Cond.fieldLink RX2 15 "ThatchRoofModel$State" "ridge" "[I", Cond.fieldLink RX2 19 "ThatchRoofModel$State" "torn" "[I", Cond.fieldLink RX2 22 "ThatchRoofModel$State" "worn" "[I", Cond.fieldLink RX2 25 "ThatchRoofModel$State" "kind" "[I"]
def wsX3_init_r2 : List Cond := [Cond.fieldLink RX2 28 "ThatchRoofModel$State" "thick" "[I", Cond.fieldLink RX2 31 "ThatchRoofModel$State" "spars" "[I", Cond.fieldLink RX2 34 "ThatchRoofModel$State" "moss" "[I", Cond.arrayClass .boolean, Cond.fieldLink RX2 37 "ThatchRoofModel$State" "isGone" "[Z"]
def wsX3_init : List Cond := .code yX3_init cX3_init 1 none :: ((wsX3_init_r1 ++ wsX3_init_r2) ++ wsX30 ++ wsX20)
def wsX3_isIn : List Cond := .code yX3_isIn cX3_isIn 3 (some .boolean) :: ([])
def wsX3_build : List Cond := .code yX3_build cX3_build 4 (some .int) :: ([.fieldLink RX3 40 "ThatchRoofModel" "thrown" "I", .fieldLink RX3 44 "ThatchRoofModel" "roofs" "I", .fieldLink RX3 9 "ThatchRoofModel" "width" "[I", .fieldLink RX3 13 "ThatchRoofModel" "courses" "[I", .fieldLink RX3 16 "ThatchRoofModel" "slope" "[I", .fieldLink RX3 33 "ThatchRoofModel" "s" "LThatchRoofModel$State;", .methodLink RX3 47 yX3_isIn, .static yX3_isIn, .initialized RX3, .code yX3_isIn cX3_isIn 3 (some .boolean), .methodLink RX3 59 yX3_no, .instanceMethod yX3_no, .selects RX3 yX3_no yX3_no, .code yX3_no cX3_no 2 (some .int)] ++ wsX30 ++ wsX20)
def wsX3_yealmTold : List Cond := .code yX3_yealmTold cX3_yealmTold 7 (some .int) :: ([.arrayClass .int, .fieldLink RX3 33 "ThatchRoofModel" "s" "LThatchRoofModel$State;", .methodLink RX3 78 yX3_cell, .static yX3_cell, .initialized RX3, .code yX3_cell cX3_cell 3 (some .int), .methodLink RX3 102 yX2_isBare, .instanceMethod yX2_isBare, .selects RX2 yX2_isBare yX2_isBare, .initialized RX2, .code yX2_isBare cX2_isBare 4 (some .boolean), .fieldLink RX2 3 "ThatchRoofModel$State" "this$0" "LThatchRoofModel;", .methodLink RX2 59 yX2_isThere, .instanceMethod yX2_isThere, .selects RX2 yX2_isThere yX2_isThere, .code yX2_isThere cX2_isThere 4 (some .boolean), .fieldLink RX2 25 "ThatchRoofModel$State" "kind" "[I"] ++ wsX30 ++ wsX20)
def wsX3_roofTold_r1 : List Cond := [Cond.arrayClass .int, Cond.fieldLink RX3 9 "ThatchRoofModel" "width" "[I", Cond.fieldLink RX3 13 "ThatchRoofModel" "courses" "[I", Cond.fieldLink RX3 16 "ThatchRoofModel" "slope" "[I", Cond.fieldLink RX3 33 "ThatchRoofModel" "s" "LThatchRoofModel$State;", Cond.methodLink RX3 109 yX2_yealms, Cond.instanceMethod yX2_yealms, Cond.selects RX2 yX2_yealms yX2_yealms, Cond.initialized RX2, Cond.code yX2_yealms cX2_yealms 4 (some .int), Cond.fieldLink RX2 25 "ThatchRoofModel$State" "kind" "[I", Cond.methodLink RX3 112 yX2_thickness, Cond.instanceMethod yX2_thickness, Cond.selects RX2 yX2_thickness yX2_thickness, Cond.code yX2_thickness cX2_thickness 4 (some .int), Cond.fieldLink RX2 28 "ThatchRoofModel$State" "thick" "[I", Cond.methodLink RX3 115 yX2_leaks, Cond.instanceMethod yX2_leaks, Cond.selects RX2 yX2_leaks yX2_leaks, Cond.code yX2_leaks cX2_leaks 6 (some .int), Cond.fieldLink RX2 3 "ThatchRoofModel$State" "this$0" "LThatchRoofModel;", Cond.static yX3_cell, Cond.initialized RX3, Cond.code yX3_cell cX3_cell 3 (some .int)]
def wsX3_roofTold_r2 : List Cond := [Cond.methodLink RX2 59 yX2_isThere, Cond.instanceMethod yX2_isThere, Cond.selects RX2 yX2_isThere yX2_isThere, Cond.code yX2_isThere cX2_isThere 4 (some .boolean)]
def wsX3_roofTold : List Cond := .code yX3_roofTold cX3_roofTold 4 (some .int) :: ((wsX3_roofTold_r1 ++ wsX3_roofTold_r2) ++ wsX30 ++ wsX20)
def wsX3_counted_r1 : List Cond := [Cond.fieldLink RX3 44 "ThatchRoofModel" "roofs" "I", Cond.fieldLink RX3 33 "ThatchRoofModel" "s" "LThatchRoofModel$State;", Cond.arrayClass .int, Cond.fieldLink RX3 25 "ThatchRoofModel" "barn" "[I", Cond.fieldLink RX3 19 "ThatchRoofModel" "rain" "[I", Cond.fieldLink RX3 22 "ThatchRoofModel" "storm" "[I", Cond.methodLink RX3 109 yX2_yealms, Cond.instanceMethod yX2_yealms, Cond.selects RX2 yX2_yealms yX2_yealms, Cond.initialized RX2, Cond.code yX2_yealms cX2_yealms 4 (some .int), Cond.fieldLink RX2 25 "ThatchRoofModel$State" "kind" "[I", Cond.methodLink RX3 115 yX2_leaks, Cond.instanceMethod yX2_leaks, Cond.selects RX2 yX2_leaks yX2_leaks, Cond.code yX2_leaks cX2_leaks 6 (some .int), Cond.fieldLink RX2 3 "ThatchRoofModel$State" "this$0" "LThatchRoofModel;", Cond.fieldLink RX2 28 "ThatchRoofModel$State" "thick" "[I", Cond.static yX3_cell, Cond.initialized RX3, Cond.code yX3_cell cX3_cell 3 (some .int), Cond.methodLink RX2 59 yX2_isThere, Cond.instanceMethod yX2_isThere, Cond.selects RX2 yX2_isThere yX2_isThere]
def wsX3_counted_r2 : List Cond := [Cond.code yX2_isThere cX2_isThere 4 (some .boolean)]
def wsX3_counted : List Cond := .code yX3_counted cX3_counted 5 (some .int) :: ((wsX3_counted_r1 ++ wsX3_counted_r2) ++ wsX30 ++ wsX20)
def wsX3_digest_r1 : List Cond := [Cond.fieldLink RX3 40 "ThatchRoofModel" "thrown" "I", Cond.constantLong RX3 149 (739), Cond.constantLong RX3 151 (31), Cond.fieldLink RX3 19 "ThatchRoofModel" "rain" "[I", Cond.fieldLink RX3 22 "ThatchRoofModel" "storm" "[I", Cond.fieldLink RX3 44 "ThatchRoofModel" "roofs" "I", Cond.fieldLink RX3 13 "ThatchRoofModel" "courses" "[I", Cond.fieldLink RX3 9 "ThatchRoofModel" "width" "[I", Cond.methodLink RX3 131 yX3_counted, Cond.instanceMethod yX3_counted, Cond.selects RX3 yX3_counted yX3_counted, Cond.initialized RX3, Cond.code yX3_counted cX3_counted 5 (some .int), Cond.fieldLink RX3 33 "ThatchRoofModel" "s" "LThatchRoofModel$State;", Cond.arrayClass .int, Cond.fieldLink RX3 25 "ThatchRoofModel" "barn" "[I", Cond.methodLink RX3 109 yX2_yealms, Cond.instanceMethod yX2_yealms, Cond.selects RX2 yX2_yealms yX2_yealms, Cond.initialized RX2, Cond.code yX2_yealms cX2_yealms 4 (some .int), Cond.fieldLink RX2 25 "ThatchRoofModel$State" "kind" "[I", Cond.methodLink RX3 115 yX2_leaks, Cond.instanceMethod yX2_leaks]
def wsX3_digest_r2 : List Cond := [Cond.selects RX2 yX2_leaks yX2_leaks, Cond.code yX2_leaks cX2_leaks 6 (some .int), Cond.fieldLink RX2 3 "ThatchRoofModel$State" "this$0" "LThatchRoofModel;", Cond.fieldLink RX2 28 "ThatchRoofModel$State" "thick" "[I", Cond.static yX3_cell, Cond.code yX3_cell cX3_cell 3 (some .int), Cond.methodLink RX2 59 yX2_isThere, Cond.instanceMethod yX2_isThere, Cond.selects RX2 yX2_isThere yX2_isThere, Cond.code yX2_isThere cX2_isThere 4 (some .boolean), Cond.methodLink RX3 124 yX3_roofTold, Cond.instanceMethod yX3_roofTold, Cond.selects RX3 yX3_roofTold yX3_roofTold, Cond.code yX3_roofTold cX3_roofTold 4 (some .int), Cond.fieldLink RX3 16 "ThatchRoofModel" "slope" "[I", Cond.methodLink RX3 112 yX2_thickness, Cond.instanceMethod yX2_thickness, Cond.selects RX2 yX2_thickness yX2_thickness, Cond.code yX2_thickness cX2_thickness 4 (some .int), Cond.methodLink RX3 105 yX3_yealmTold, Cond.instanceMethod yX3_yealmTold, Cond.selects RX3 yX3_yealmTold yX3_yealmTold, Cond.code yX3_yealmTold cX3_yealmTold 7 (some .int), Cond.methodLink RX3 78 yX3_cell]
def wsX3_digest_r3 : List Cond := [Cond.methodLink RX3 102 yX2_isBare, Cond.instanceMethod yX2_isBare, Cond.selects RX2 yX2_isBare yX2_isBare, Cond.code yX2_isBare cX2_isBare 4 (some .boolean)]
def wsX3_digest : List Cond := .code yX3_digest cX3_digest 7 (some .long) :: ((wsX3_digest_r1 ++ (wsX3_digest_r2 ++ wsX3_digest_r3)) ++ wsX30 ++ wsX20)
def wsL_build_r1 : List Cond := [Cond.classLink RL 13 "java/lang/IllegalArgumentException", Cond.classLink RL 15 "java/lang/IllegalStateException", Cond.methodLink RL 7 yX1_build, Cond.instanceMethod yX1_build, Cond.selects RX1 yX1_build yX1_build, Cond.initialized RX1, Cond.code yX1_build cX1_build 5 (some .int), Cond.classLink RX1 36 "java/lang/IllegalArgumentException", Cond.initialized "java/lang/IllegalArgumentException", Cond.classLink RX1 47 "java/lang/IllegalStateException", Cond.initialized "java/lang/IllegalStateException", Cond.fieldLink RX1 43 "ThatchRoof" "built" "I", Cond.fieldLink RX1 11 "ThatchRoof" "roofs" "[LThatchRoof$Roof;", Cond.classLink RX1 9 RX0, Cond.instantiable RX0 10, Cond.initialized RX0, Cond.methodLink RX1 32 yX1_isWithin, Cond.static yX1_isWithin, Cond.code yX1_isWithin cX1_isWithin 3 (some .boolean), Cond.methodLink RX1 25 yX0_init, Cond.instanceMethod yX0_init, Cond.code yX0_init cX0_init 4 none, Cond.methodLink RX0 3 objectInit, Cond.instanceMethod objectInit]
def wsL_build_r2 : List Cond := [Cond.code objectInit ⟨#[0xb1]⟩ 1 none, Cond.arrayClass .int, Cond.fieldLink RX0 9 "ThatchRoof$Roof" "kinds" "[I", Cond.fieldLink RX0 15 "ThatchRoof$Roof" "thicknesses" "[I", Cond.fieldLink RX0 18 "ThatchRoof$Roof" "spars" "[I", Cond.fieldLink RX0 21 "ThatchRoof$Roof" "mosses" "[I", Cond.fieldLink RX0 24 "ThatchRoof$Roof" "width" "I", Cond.fieldLink RX0 28 "ThatchRoof$Roof" "courses" "I", Cond.fieldLink RX0 31 "ThatchRoof$Roof" "slope" "I", Cond.fieldLink RX0 34 "ThatchRoof$Roof" "ridge" "I"]
def wsL_build : List Cond := .codeWith yL_build cL_build 6 (some .int) [(0, 12, 15, 13), (0, 12, 19, 15)] :: ((wsL_build_r1 ++ wsL_build_r2) ++ wsX10 ++ wsX00 ++ (vx_atS RX1 40 "java/lang/IllegalArgumentException" ["java/lang/RuntimeException", "java/lang/Exception"]).filter goodWord ++ (vx_atS RX1 51 "java/lang/IllegalStateException" ["java/lang/RuntimeException", "java/lang/Exception"]).filter goodWord)
def wsL_law0_r1 : List Cond := [Cond.classLink RL 8 RX1, Cond.instantiable RX1 7, Cond.initialized RX1, Cond.classLink RL 70 RX3, Cond.instantiable RX3 10, Cond.initialized RX3, Cond.arrayClass .long, Cond.methodLink RL 69 yX1_init, Cond.instanceMethod yX1_init, Cond.code yX1_init cX1_init 2 none, Cond.methodLink RX1 3 objectInit, Cond.instanceMethod objectInit, Cond.code objectInit ⟨#[0xb1]⟩ 1 none, Cond.classLink RX1 9 RX0, Cond.fieldLink RX1 11 "ThatchRoof" "roofs" "[LThatchRoof$Roof;", Cond.arrayClass .int, Cond.fieldLink RX1 15 "ThatchRoof" "barn" "[I", Cond.fieldLink RX1 19 "ThatchRoof" "rains" "[I", Cond.fieldLink RX1 22 "ThatchRoof" "storms" "[I", Cond.instantiable RX0 10, Cond.initialized RX0, Cond.fieldLink RX1 28 "ThatchRoof" "trial" "LThatchRoof$Roof;", Cond.methodLink RX1 25 yX0_init, Cond.instanceMethod yX0_init]
def wsL_law0_r2 : List Cond := [Cond.code yX0_init cX0_init 4 none, Cond.methodLink RX0 3 objectInit, Cond.fieldLink RX0 9 "ThatchRoof$Roof" "kinds" "[I", Cond.fieldLink RX0 15 "ThatchRoof$Roof" "thicknesses" "[I", Cond.fieldLink RX0 18 "ThatchRoof$Roof" "spars" "[I", Cond.fieldLink RX0 21 "ThatchRoof$Roof" "mosses" "[I", Cond.fieldLink RX0 24 "ThatchRoof$Roof" "width" "I", Cond.fieldLink RX0 28 "ThatchRoof$Roof" "courses" "I", Cond.fieldLink RX0 31 "ThatchRoof$Roof" "slope" "I", Cond.fieldLink RX0 34 "ThatchRoof$Roof" "ridge" "I", Cond.methodLink RL 72 yX3_init, Cond.instanceMethod yX3_init, Cond.code yX3_init cX3_init 1 none, Cond.methodLink RX3 1 objectInit, Cond.fieldLink RX3 9 "ThatchRoofModel" "width" "[I", Cond.fieldLink RX3 13 "ThatchRoofModel" "courses" "[I", Cond.fieldLink RX3 16 "ThatchRoofModel" "slope" "[I", Cond.fieldLink RX3 19 "ThatchRoofModel" "rain" "[I", Cond.fieldLink RX3 22 "ThatchRoofModel" "storm" "[I", Cond.fieldLink RX3 25 "ThatchRoofModel" "barn" "[I", Cond.classLink RX3 28 RX2, Cond.instantiable RX2 10, Cond.initialized RX2, Cond.fieldLink RX3 33 "ThatchRoofModel" "s" "LThatchRoofModel$State;"]
def wsL_law0_r3 : List Cond := [Cond.fieldLink RX3 37 "ThatchRoofModel" "ahead" "LThatchRoofModel$State;", Cond.methodLink RX3 30 yX2_init, Cond.instanceMethod yX2_init, Cond.code yX2_init cX2_init 3 none, Cond.fieldLink RX2 3 "ThatchRoofModel$State" "this$0" "LThatchRoofModel;", Cond.methodLink RX2 9 objectInit, Cond.fieldLink RX2 15 "ThatchRoofModel$State" "ridge" "[I", Cond.fieldLink RX2 19 "ThatchRoofModel$State" "torn" "[I", Cond.fieldLink RX2 22 "ThatchRoofModel$State" "worn" "[I", Cond.fieldLink RX2 25 "ThatchRoofModel$State" "kind" "[I", Cond.fieldLink RX2 28 "ThatchRoofModel$State" "thick" "[I", Cond.fieldLink RX2 31 "ThatchRoofModel$State" "spars" "[I", Cond.fieldLink RX2 34 "ThatchRoofModel$State" "moss" "[I", Cond.arrayClass .boolean, Cond.fieldLink RX2 37 "ThatchRoofModel$State" "isGone" "[Z", Cond.methodLink RL 73 yL_build, Cond.static yL_build, Cond.initialized RL, Cond.codeWith yL_build cL_build 6 (some .int) [(0, 12, 15, 13), (0, 12, 19, 15)], Cond.classLink RL 13 "java/lang/IllegalArgumentException", Cond.classLink RL 15 "java/lang/IllegalStateException", Cond.methodLink RL 7 yX1_build, Cond.instanceMethod yX1_build, Cond.selects RX1 yX1_build yX1_build]
def wsL_law0_r4 : List Cond := [Cond.code yX1_build cX1_build 5 (some .int), Cond.classLink RX1 36 "java/lang/IllegalArgumentException", Cond.initialized "java/lang/IllegalArgumentException", Cond.classLink RX1 47 "java/lang/IllegalStateException", Cond.initialized "java/lang/IllegalStateException", Cond.fieldLink RX1 43 "ThatchRoof" "built" "I", Cond.methodLink RX1 32 yX1_isWithin, Cond.static yX1_isWithin, Cond.code yX1_isWithin cX1_isWithin 3 (some .boolean), Cond.methodLink RL 78 yX3_build, Cond.instanceMethod yX3_build, Cond.selects RX3 yX3_build yX3_build, Cond.code yX3_build cX3_build 4 (some .int), Cond.fieldLink RX3 40 "ThatchRoofModel" "thrown" "I", Cond.fieldLink RX3 44 "ThatchRoofModel" "roofs" "I", Cond.methodLink RX3 47 yX3_isIn, Cond.static yX3_isIn, Cond.code yX3_isIn cX3_isIn 3 (some .boolean), Cond.methodLink RX3 59 yX3_no, Cond.instanceMethod yX3_no, Cond.selects RX3 yX3_no yX3_no, Cond.code yX3_no cX3_no 2 (some .int), Cond.methodLink RL 79 yL_bring, Cond.static yL_bring]
def wsL_law0_r5 : List Cond := [Cond.codeWith yL_bring cL_bring 5 (some .int) [(0, 10, 13, 21), (0, 10, 17, 13), (0, 10, 21, 15)], Cond.classLink RL 21 "java/lang/IndexOutOfBoundsException", Cond.methodLink RL 17 yX1_bring, Cond.instanceMethod yX1_bring, Cond.selects RX1 yX1_bring yX1_bring, Cond.code yX1_bring cX1_bring 3 (some .int), Cond.classLink RX1 56 "java/lang/IndexOutOfBoundsException", Cond.initialized "java/lang/IndexOutOfBoundsException", Cond.methodLink RX1 52 yX1_isKind, Cond.static yX1_isKind, Cond.code yX1_isKind cX1_isKind 1 (some .boolean), Cond.methodLink RL 82 yX3_bring, Cond.instanceMethod yX3_bring, Cond.selects RX3 yX3_bring yX3_bring, Cond.code yX3_bring cX3_bring 3 (some .int), Cond.methodLink RL 83 yL_setWeather, Cond.static yL_setWeather, Cond.codeWith yL_setWeather cL_setWeather 6 (some .int) [(0, 12, 15, 21), (0, 12, 19, 13)], Cond.methodLink RL 23 yX1_setWeather, Cond.instanceMethod yX1_setWeather, Cond.selects RX1 yX1_setWeather yX1_setWeather, Cond.code yX1_setWeather cX1_setWeather 5 (some .int), Cond.methodLink RL 85 yX3_setWeather, Cond.instanceMethod yX3_setWeather]
def wsL_law0_r6 : List Cond := [Cond.selects RX3 yX3_setWeather yX3_setWeather, Cond.code yX3_setWeather cX3_setWeather 5 (some .int), Cond.methodLink RL 86 yL_lay, Cond.static yL_lay, Cond.codeWith yL_lay cL_lay 9 (some .int) [(0, 18, 21, 21), (0, 18, 25, 13), (0, 18, 29, 15)], Cond.methodLink RL 26 yX1_lay, Cond.instanceMethod yX1_lay, Cond.selects RX1 yX1_lay yX1_lay, Cond.code yX1_lay cX1_lay 8 (some .int), Cond.methodLink RX1 69 yX1_roofAt, Cond.instanceMethod yX1_roofAt, Cond.selects RX1 yX1_roofAt yX1_roofAt, Cond.code yX1_roofAt cX1_roofAt 2 (some (.object "ThatchRoof$Roof")), Cond.methodLink RX1 73 yX0_hasPlace, Cond.instanceMethod yX0_hasPlace, Cond.selects RX0 yX0_hasPlace yX0_hasPlace, Cond.code yX0_hasPlace cX0_hasPlace 3 (some .boolean), Cond.methodLink RX0 43 yX0_hasCourse, Cond.instanceMethod yX0_hasCourse, Cond.selects RX0 yX0_hasCourse yX0_hasCourse, Cond.code yX0_hasCourse cX0_hasCourse 2 (some .boolean), Cond.methodLink RX1 79 yX1_isYealm, Cond.static yX1_isYealm, Cond.code yX1_isYealm cX1_isYealm 2 (some .boolean)]
def wsL_law0_r7 : List Cond := [Cond.methodLink RX1 84 yX0_canCarry, Cond.instanceMethod yX0_canCarry, Cond.selects RX0 yX0_canCarry yX0_canCarry, Cond.code yX0_canCarry cX0_canCarry 3 (some .boolean), Cond.methodLink RX0 51 yX0_hasYealm, Cond.instanceMethod yX0_hasYealm, Cond.selects RX0 yX0_hasYealm yX0_hasYealm, Cond.code yX0_hasYealm cX0_hasYealm 3 (some .boolean), Cond.methodLink RX0 47 yX0_thicknessAt, Cond.instanceMethod yX0_thicknessAt, Cond.selects RX0 yX0_thicknessAt yX0_thicknessAt, Cond.code yX0_thicknessAt cX0_thicknessAt 3 (some .int), Cond.methodLink RX1 87 yX1_bundlesFor, Cond.static yX1_bundlesFor, Cond.code yX1_bundlesFor cX1_bundlesFor 1 (some .int), Cond.methodLink RX1 93 yX0_putYealm, Cond.instanceMethod yX0_putYealm, Cond.selects RX0 yX0_putYealm yX0_putYealm, Cond.code yX0_putYealm cX0_putYealm 7 none, Cond.methodLink RX0 58 yX0_hasPlace, Cond.methodLink RX0 61 yX0_numberOf, Cond.instanceMethod yX0_numberOf, Cond.selects RX0 yX0_numberOf yX0_numberOf, Cond.code yX0_numberOf cX0_numberOf 3 (some .int)]
def wsL_law0_r8 : List Cond := [Cond.methodLink RL 89 yX3_lay, Cond.instanceMethod yX3_lay, Cond.selects RX3 yX3_lay yX3_lay, Cond.code yX3_lay cX3_lay 7 (some .int), Cond.methodLink RX3 69 yX3_isPlace, Cond.instanceMethod yX3_isPlace, Cond.selects RX3 yX3_isPlace yX3_isPlace, Cond.code yX3_isPlace cX3_isPlace 4 (some .boolean), Cond.methodLink RX3 55 yX3_isCourse, Cond.instanceMethod yX3_isCourse, Cond.selects RX3 yX3_isCourse yX3_isCourse, Cond.code yX3_isCourse cX3_isCourse 3 (some .boolean), Cond.methodLink RX3 51 yX3_isRoof, Cond.instanceMethod yX3_isRoof, Cond.selects RX3 yX3_isRoof yX3_isRoof, Cond.code yX3_isRoof cX3_isRoof 2 (some .boolean), Cond.methodLink RX3 72 yX3_isFree, Cond.instanceMethod yX3_isFree, Cond.selects RX3 yX3_isFree yX3_isFree, Cond.code yX3_isFree cX3_isFree 4 (some .boolean), Cond.methodLink RX3 66 yX2_isThere, Cond.instanceMethod yX2_isThere, Cond.selects RX2 yX2_isThere yX2_isThere, Cond.code yX2_isThere cX2_isThere 4 (some .boolean)]
def wsL_law0_r9 : List Cond := [Cond.static yX3_cell, Cond.code yX3_cell cX3_cell 3 (some .int), Cond.methodLink RX3 75 yX3_bundles, Cond.static yX3_bundles, Cond.code yX3_bundles cX3_bundles 1 (some .int), Cond.methodLink RX3 78 yX3_cell, Cond.methodLink RX3 82 yX2_put, Cond.instanceMethod yX2_put, Cond.selects RX2 yX2_put yX2_put, Cond.code yX2_put cX2_put 5 none, Cond.methodLink RL 90 yL_layCourse, Cond.static yL_layCourse, Cond.codeWith yL_layCourse cL_layCourse 8 (some .int) [(0, 16, 19, 21), (0, 16, 23, 13)], Cond.methodLink RL 30 yX1_layCourse, Cond.instanceMethod yX1_layCourse, Cond.selects RX1 yX1_layCourse yX1_layCourse, Cond.code yX1_layCourse cX1_layCourse 9 (some .int), Cond.methodLink RX1 97 yX0_hasCourse, Cond.methodLink RX1 102 yX0_wide, Cond.instanceMethod yX0_wide, Cond.selects RX0 yX0_wide yX0_wide, Cond.code yX0_wide cX0_wide 1 (some .int), Cond.methodLink RL 93 yX3_layCourse, Cond.instanceMethod yX3_layCourse]
def wsL_law0_r10 : List Cond := [Cond.selects RX3 yX3_layCourse yX3_layCourse, Cond.code yX3_layCourse cX3_layCourse 8 (some .int), Cond.methodLink RL 94 yL_mend, Cond.static yL_mend, Cond.codeWith yL_mend cL_mend 6 (some .int) [(0, 12, 15, 21), (0, 12, 19, 15)], Cond.methodLink RL 34 yX1_mend, Cond.instanceMethod yX1_mend, Cond.selects RX1 yX1_mend yX1_mend, Cond.code yX1_mend cX1_mend 6 (some .int), Cond.methodLink RX1 108 yX0_kindAt, Cond.instanceMethod yX0_kindAt, Cond.selects RX0 yX0_kindAt yX0_kindAt, Cond.code yX0_kindAt cX0_kindAt 3 (some .int), Cond.methodLink RX1 114 yX0_improve, Cond.instanceMethod yX0_improve, Cond.selects RX0 yX0_improve yX0_improve, Cond.code yX0_improve cX0_improve 4 none, Cond.methodLink RX0 64 Lib.Math.min.name, Cond.static Lib.Math.min.name, Cond.initialized "java/lang/Math", Cond.code Lib.Math.min.name Lib.Math.min.code 2 (some .int), Cond.methodLink RX1 118 yX0_thicknessAt, Cond.methodLink RL 96 yX3_mend, Cond.instanceMethod yX3_mend]
def wsL_law0_r11 : List Cond := [Cond.selects RX3 yX3_mend yX3_mend, Cond.code yX3_mend cX3_mend 5 (some .int), Cond.methodLink RX3 89 yX2_mend, Cond.instanceMethod yX2_mend, Cond.selects RX2 yX2_mend yX2_mend, Cond.code yX2_mend cX2_mend 2 none, Cond.methodLink RX2 66 Lib.Math.min.name, Cond.methodLink RL 97 yL_bind, Cond.static yL_bind, Cond.codeWith yL_bind cL_bind 4 (some .int) [(0, 9, 12, 21), (0, 9, 15, 15)], Cond.methodLink RL 37 yX1_bind, Cond.instanceMethod yX1_bind, Cond.selects RX1 yX1_bind yX1_bind, Cond.code yX1_bind cX1_bind 3 (some .int), Cond.methodLink RX1 125 yX0_renewRidge, Cond.instanceMethod yX0_renewRidge, Cond.selects RX0 yX0_renewRidge yX0_renewRidge, Cond.code yX0_renewRidge cX0_renewRidge 2 (some .int), Cond.methodLink RL 100 yX3_bind, Cond.instanceMethod yX3_bind, Cond.selects RX3 yX3_bind yX3_bind, Cond.code yX3_bind cX3_bind 3 (some .int), Cond.methodLink RL 101 yL_yealm, Cond.static yL_yealm]
def wsL_law0_r12 : List Cond := [Cond.codeWith yL_yealm cL_yealm 7 (some .int) [(0, 14, 17, 21)], Cond.methodLink RL 41 yX1_yealm, Cond.instanceMethod yX1_yealm, Cond.selects RX1 yX1_yealm yX1_yealm, Cond.code yX1_yealm cX1_yealm 6 (some .int), Cond.methodLink RX1 130 yX0_tellYealm, Cond.instanceMethod yX0_tellYealm, Cond.selects RX0 yX0_tellYealm yX0_tellYealm, Cond.code yX0_tellYealm cX0_tellYealm 5 (some .int), Cond.methodLink RX0 69 yX0_isBare, Cond.instanceMethod yX0_isBare, Cond.selects RX0 yX0_isBare yX0_isBare, Cond.code yX0_isBare cX0_isBare 3 (some .boolean), Cond.methodLink RX0 55 yX0_isHighest, Cond.instanceMethod yX0_isHighest, Cond.selects RX0 yX0_isHighest yX0_isHighest, Cond.code yX0_isHighest cX0_isHighest 2 (some .boolean), Cond.methodLink RL 104 yX3_yealm, Cond.instanceMethod yX3_yealm, Cond.selects RX3 yX3_yealm yX3_yealm, Cond.code yX3_yealm cX3_yealm 5 (some .int), Cond.methodLink RX3 105 yX3_yealmTold, Cond.instanceMethod yX3_yealmTold, Cond.selects RX3 yX3_yealmTold yX3_yealmTold]
def wsL_law0_r13 : List Cond := [Cond.code yX3_yealmTold cX3_yealmTold 7 (some .int), Cond.methodLink RX3 102 yX2_isBare, Cond.instanceMethod yX2_isBare, Cond.selects RX2 yX2_isBare yX2_isBare, Cond.code yX2_isBare cX2_isBare 4 (some .boolean), Cond.methodLink RX2 59 yX2_isThere, Cond.methodLink RL 105 yL_roof, Cond.static yL_roof, Cond.codeWith yL_roof cL_roof 5 (some .int) [(0, 10, 13, 21)], Cond.methodLink RL 45 yX1_roof, Cond.instanceMethod yX1_roof, Cond.selects RX1 yX1_roof yX1_roof, Cond.code yX1_roof cX1_roof 4 (some .int), Cond.methodLink RX1 136 yX0_tell, Cond.instanceMethod yX0_tell, Cond.selects RX0 yX0_tell yX0_tell, Cond.code yX0_tell cX0_tell 2 (some .int), Cond.fieldLink RX0 82 "ThatchRoof$Roof" "torn" "I", Cond.fieldLink RX0 85 "ThatchRoof$Roof" "worn" "I", Cond.methodLink RX0 72 yX0_yealms, Cond.instanceMethod yX0_yealms, Cond.selects RX0 yX0_yealms yX0_yealms, Cond.code yX0_yealms cX0_yealms 4 (some .int), Cond.methodLink RX0 76 yX0_thicknessInAll]
def wsL_law0_r14 : List Cond := [Cond.instanceMethod yX0_thicknessInAll, Cond.selects RX0 yX0_thicknessInAll yX0_thicknessInAll, Cond.code yX0_thicknessInAll cX0_thicknessInAll 3 (some .int), Cond.methodLink RX0 88 yX0_thicknessOver, Cond.instanceMethod yX0_thicknessOver, Cond.selects RX0 yX0_thicknessOver yX0_thicknessOver, Cond.code yX0_thicknessOver cX0_thicknessOver 4 (some .int), Cond.methodLink RX0 79 yX0_leaks, Cond.instanceMethod yX0_leaks, Cond.selects RX0 yX0_leaks yX0_leaks, Cond.code yX0_leaks cX0_leaks 3 (some .int), Cond.methodLink RL 107 yX3_roof, Cond.instanceMethod yX3_roof, Cond.selects RX3 yX3_roof yX3_roof, Cond.code yX3_roof cX3_roof 3 (some .int), Cond.methodLink RX3 124 yX3_roofTold, Cond.instanceMethod yX3_roofTold, Cond.selects RX3 yX3_roofTold yX3_roofTold, Cond.code yX3_roofTold cX3_roofTold 4 (some .int), Cond.methodLink RX3 109 yX2_yealms, Cond.instanceMethod yX2_yealms, Cond.selects RX2 yX2_yealms yX2_yealms, Cond.code yX2_yealms cX2_yealms 4 (some .int), Cond.methodLink RX3 112 yX2_thickness]
def wsL_law0_r15 : List Cond := [Cond.instanceMethod yX2_thickness, Cond.selects RX2 yX2_thickness yX2_thickness, Cond.code yX2_thickness cX2_thickness 4 (some .int), Cond.methodLink RX3 115 yX2_leaks, Cond.instanceMethod yX2_leaks, Cond.selects RX2 yX2_leaks yX2_leaks, Cond.code yX2_leaks cX2_leaks 6 (some .int), Cond.methodLink RL 108 yL_count, Cond.static yL_count, Cond.codeWith yL_count cL_count 4 (some .int) [(0, 9, 12, 21)], Cond.methodLink RL 48 yX1_count, Cond.instanceMethod yX1_count, Cond.selects RX1 yX1_count yX1_count, Cond.code yX1_count cX1_count 2 (some .int), Cond.methodLink RX1 141 yX1_tally, Cond.instanceMethod yX1_tally, Cond.selects RX1 yX1_tally yX1_tally, Cond.code yX1_tally cX1_tally 2 (some .int), Cond.fieldLink RX1 155 "ThatchRoof" "month" "I", Cond.methodLink RX1 213 yX1_tallyOfRoofs, Cond.instanceMethod yX1_tallyOfRoofs, Cond.selects RX1 yX1_tallyOfRoofs yX1_tallyOfRoofs, Cond.code yX1_tallyOfRoofs cX1_tallyOfRoofs 5 (some .int), Cond.methodLink RX1 146 yX1_rainAhead]
def wsL_law0_r16 : List Cond := [Cond.instanceMethod yX1_rainAhead, Cond.selects RX1 yX1_rainAhead yX1_rainAhead, Cond.code yX1_rainAhead cX1_rainAhead 2 (some .int), Cond.methodLink RX1 210 yX1_monthOfYear, Cond.instanceMethod yX1_monthOfYear, Cond.selects RX1 yX1_monthOfYear yX1_monthOfYear, Cond.code yX1_monthOfYear cX1_monthOfYear 2 (some .int), Cond.methodLink RX1 205 yJ9_floorMod_7cf53, Cond.static yJ9_floorMod_7cf53, Cond.initialized RJ9, Cond.code yJ9_floorMod_7cf53 cJ9_floorMod_7cf53 3 (some .int), Cond.methodLink RX1 149 yX1_stormAhead, Cond.instanceMethod yX1_stormAhead, Cond.selects RX1 yX1_stormAhead yX1_stormAhead, Cond.code yX1_stormAhead cX1_stormAhead 2 (some .int), Cond.methodLink RL 110 yX3_count, Cond.instanceMethod yX3_count, Cond.selects RX3 yX3_count yX3_count, Cond.code yX3_count cX3_count 2 (some .int), Cond.methodLink RX3 131 yX3_counted, Cond.instanceMethod yX3_counted, Cond.selects RX3 yX3_counted yX3_counted, Cond.code yX3_counted cX3_counted 5 (some .int), Cond.methodLink RL 111 yL_pass]
def wsL_law0_r17 : List Cond := [Cond.static yL_pass, Cond.codeWith yL_pass cL_pass 4 (some .int) [(0, 9, 12, 13)], Cond.methodLink RL 51 yX1_pass, Cond.instanceMethod yX1_pass, Cond.selects RX1 yX1_pass yX1_pass, Cond.code yX1_pass cX1_pass 6 (some .int), Cond.methodLink RX1 152 yX0_liveMonth, Cond.instanceMethod yX0_liveMonth, Cond.selects RX0 yX0_liveMonth yX0_liveMonth, Cond.code yX0_liveMonth cX0_liveMonth 5 (some .int), Cond.methodLink RX0 92 yX0_liveMonthAt, Cond.instanceMethod yX0_liveMonthAt, Cond.selects RX0 yX0_liveMonthAt yX0_liveMonthAt, Cond.code yX0_liveMonthAt cX0_liveMonthAt 6 (some .int), Cond.methodLink RX0 100 yX0_rainOn, Cond.instanceMethod yX0_rainOn, Cond.selects RX0 yX0_rainOn yX0_rainOn, Cond.code yX0_rainOn cX0_rainOn 6 (some .int), Cond.methodLink RX0 110 Lib.Math.max.name, Cond.static Lib.Math.max.name, Cond.code Lib.Math.max.name Lib.Math.max.code 2 (some .int), Cond.methodLink RX0 113 yX0_wearBy, Cond.instanceMethod yX0_wearBy, Cond.selects RX0 yX0_wearBy yX0_wearBy]
def wsL_law0_r18 : List Cond := [Cond.code yX0_wearBy cX0_wearBy 6 (some .int), Cond.methodLink RX0 103 yX0_growMoss, Cond.instanceMethod yX0_growMoss, Cond.selects RX0 yX0_growMoss yX0_growMoss, Cond.code yX0_growMoss cX0_growMoss 5 none, Cond.methodLink RX0 107 yX0_stormOn, Cond.instanceMethod yX0_stormOn, Cond.selects RX0 yX0_stormOn yX0_stormOn, Cond.code yX0_stormOn cX0_stormOn 5 (some .int), Cond.methodLink RX0 116 yX0_wouldTear, Cond.instanceMethod yX0_wouldTear, Cond.selects RX0 yX0_wouldTear yX0_wouldTear, Cond.code yX0_wouldTear cX0_wouldTear 7 (some .boolean), Cond.methodLink RX0 120 yX0_isEnd, Cond.instanceMethod yX0_isEnd, Cond.selects RX0 yX0_isEnd yX0_isEnd, Cond.code yX0_isEnd cX0_isEnd 2 (some .boolean), Cond.methodLink RX0 96 yX0_wearRidge, Cond.instanceMethod yX0_wearRidge, Cond.selects RX0 yX0_wearRidge yX0_wearRidge, Cond.code yX0_wearRidge cX0_wearRidge 2 none, Cond.methodLink RL 113 yX3_pass, Cond.instanceMethod yX3_pass, Cond.selects RX3 yX3_pass yX3_pass]
def wsL_law0_r19 : List Cond := [Cond.code yX3_pass cX3_pass 6 (some .int), Cond.methodLink RX3 134 yX2_pass, Cond.instanceMethod yX2_pass, Cond.selects RX2 yX2_pass yX2_pass, Cond.code yX2_pass cX2_pass 6 none, Cond.methodLink RX2 103 Lib.Math.max.name, Cond.methodLink RX2 91 yX2_thinned, Cond.instanceMethod yX2_thinned, Cond.selects RX2 yX2_thinned yX2_thinned, Cond.code yX2_thinned cX2_thinned 7 (some .int), Cond.methodLink RX2 72 yX2_isBare, Cond.methodLink RX2 95 yX2_clear, Cond.instanceMethod yX2_clear, Cond.selects RX2 yX2_clear yX2_clear, Cond.code yX2_clear cX2_clear 4 (some .int), Cond.methodLink RX2 81 yX2_put, Cond.methodLink RX2 99 yX2_isTorn, Cond.instanceMethod yX2_isTorn, Cond.selects RX2 yX2_isTorn yX2_isTorn, Cond.code yX2_isTorn cX2_isTorn 8 (some .boolean), Cond.methodLink RL 114 yL_tears, Cond.static yL_tears, Cond.codeWith yL_tears cL_tears 5 (some .int) [(0, 10, 13, 21), (0, 10, 17, 13)], Cond.methodLink RL 54 yX1_tears]
def wsL_law0_r20 : List Cond := [Cond.instanceMethod yX1_tears, Cond.selects RX1 yX1_tears yX1_tears, Cond.code yX1_tears cX1_tears 4 (some .int), Cond.methodLink RX1 160 yX0_wouldTearInAll, Cond.instanceMethod yX0_wouldTearInAll, Cond.selects RX0 yX0_wouldTearInAll yX0_wouldTearInAll, Cond.code yX0_wouldTearInAll cX0_wouldTearInAll 5 (some .int), Cond.methodLink RL 116 yX3_tears, Cond.instanceMethod yX3_tears, Cond.selects RX3 yX3_tears yX3_tears, Cond.code yX3_tears cX3_tears 6 (some .int), Cond.methodLink RX3 138 yX2_isTorn, Cond.methodLink RL 117 yL_holds, Cond.static yL_holds, Cond.codeWith yL_holds cL_holds 4 (some .int) [(0, 9, 12, 21)], Cond.methodLink RL 57 yX1_holds, Cond.instanceMethod yX1_holds, Cond.selects RX1 yX1_holds yX1_holds, Cond.code yX1_holds cX1_holds 5 (some .int), Cond.methodLink RX1 163 yX0_leaks, Cond.methodLink RX1 166 yX0_becomeLike, Cond.instanceMethod yX0_becomeLike, Cond.selects RX0 yX0_becomeLike yX0_becomeLike, Cond.code yX0_becomeLike cX0_becomeLike 2 none]
def wsL_law0_r21 : List Cond := [Cond.methodLink RX0 37 arraycopyName, Cond.native arraycopyName, Cond.static arraycopyName, Cond.initialized "java/lang/System", Cond.methodLink RL 119 yX3_holds, Cond.instanceMethod yX3_holds, Cond.selects RX3 yX3_holds yX3_holds, Cond.code yX3_holds cX3_holds 4 (some .int), Cond.methodLink RX3 142 yX2_become, Cond.instanceMethod yX2_become, Cond.selects RX2 yX2_become yX2_become, Cond.code yX2_become cX2_become 2 none, Cond.fieldLink RX2 47 "ThatchRoofModel$State" "month" "I", Cond.methodLink RX2 51 yX2_copy, Cond.instanceMethod yX2_copy, Cond.selects RX2 yX2_copy yX2_copy, Cond.code yX2_copy cX2_copy 3 none, Cond.methodLink RX2 41 arraycopyName, Cond.methodLink RL 120 yL_foresee, Cond.static yL_foresee, Cond.codeWith yL_foresee cL_foresee 6 (some .int) [(0, 12, 15, 21), (0, 12, 19, 13)], Cond.methodLink RL 60 yX1_foresee, Cond.instanceMethod yX1_foresee, Cond.selects RX1 yX1_foresee yX1_foresee]
def wsL_law0_r22 : List Cond := [Cond.code yX1_foresee cX1_foresee 6 (some .int), Cond.methodLink RX1 174 yX0_yealms, Cond.methodLink RX1 177 yX0_ridgeLeft, Cond.instanceMethod yX0_ridgeLeft, Cond.selects RX0 yX0_ridgeLeft yX0_ridgeLeft, Cond.code yX0_ridgeLeft cX0_ridgeLeft 1 (some .int), Cond.methodLink RL 122 yX3_foresee, Cond.instanceMethod yX3_foresee, Cond.selects RX3 yX3_foresee yX3_foresee, Cond.code yX3_foresee cX3_foresee 5 (some .int), Cond.methodLink RL 123 yL_advise, Cond.static yL_advise, Cond.codeWith yL_advise cL_advise 5 (some .int) [(0, 10, 13, 21), (0, 10, 17, 13)], Cond.methodLink RL 63 yX1_advise, Cond.instanceMethod yX1_advise, Cond.selects RX1 yX1_advise yX1_advise, Cond.code yX1_advise cX1_advise 11 (some .int), Cond.methodLink RX1 182 yX1_lostAt, Cond.instanceMethod yX1_lostAt, Cond.selects RX1 yX1_lostAt yX1_lostAt, Cond.code yX1_lostAt cX1_lostAt 7 (some .int), Cond.methodLink RX1 216 yX0_liveMonthAt, Cond.methodLink RX1 219 yX0_wearRidge, Cond.methodLink RX1 186 yX0_high]
def wsL_law0_r23 : List Cond := [Cond.instanceMethod yX0_high, Cond.selects RX0 yX0_high yX0_high, Cond.code yX0_high cX0_high 1 (some .int), Cond.methodLink RX1 189 yX0_numberOf, Cond.methodLink RL 125 yX3_advise, Cond.instanceMethod yX3_advise, Cond.selects RX3 yX3_advise yX3_advise, Cond.code yX3_advise cX3_advise 8 (some .int), Cond.methodLink RX3 146 yX3_left, Cond.instanceMethod yX3_left, Cond.selects RX3 yX3_left yX3_left, Cond.code yX3_left cX3_left 5 (some .int), Cond.methodLink RL 126 yL_needs, Cond.static yL_needs, Cond.codeWith yL_needs cL_needs 5 (some .int) [(0, 10, 13, 21), (0, 10, 17, 13)], Cond.methodLink RL 66 yX1_needs, Cond.instanceMethod yX1_needs, Cond.selects RX1 yX1_needs yX1_needs, Cond.code yX1_needs cX1_needs 5 (some .int), Cond.methodLink RL 128 yX3_needs, Cond.instanceMethod yX3_needs, Cond.selects RX3 yX3_needs yX3_needs, Cond.code yX3_needs cX3_needs 3 (some .int), Cond.methodLink RL 129 yX1_mean]
def wsL_law0_r24 : List Cond := [Cond.instanceMethod yX1_mean, Cond.selects RX1 yX1_mean yX1_mean, Cond.code yX1_mean cX1_mean 5 (some .double), Cond.methodLink RX1 194 yX0_thicknessInAll, Cond.methodLink RL 133 yX3_mean, Cond.instanceMethod yX3_mean, Cond.selects RX3 yX3_mean yX3_mean, Cond.code yX3_mean cX3_mean 4 (some .double), Cond.methodLink RL 134 yX1_digest, Cond.instanceMethod yX1_digest, Cond.selects RX1 yX1_digest yX1_digest, Cond.code yX1_digest cX1_digest 5 (some .long), Cond.constantLong RX1 197 (739), Cond.constantLong RX1 199 (31), Cond.methodLink RX1 201 yX1_digestRoof, Cond.static yX1_digestRoof, Cond.code yX1_digestRoof cX1_digestRoof 8 (some .long), Cond.methodLink RL 138 yX3_digest, Cond.instanceMethod yX3_digest, Cond.selects RX3 yX3_digest yX3_digest, Cond.code yX3_digest cX3_digest 7 (some .long), Cond.constantLong RX3 149 (739), Cond.constantLong RX3 151 (31)]
def wsL_law0 : List Cond := (wsL_law0_r1 ++ (wsL_law0_r2 ++ (wsL_law0_r3 ++ (wsL_law0_r4 ++ (wsL_law0_r5 ++ (wsL_law0_r6 ++ (wsL_law0_r7 ++ (wsL_law0_r8 ++ (wsL_law0_r9 ++ (wsL_law0_r10 ++ (wsL_law0_r11 ++ (wsL_law0_r12 ++ (wsL_law0_r13 ++ (wsL_law0_r14 ++ (wsL_law0_r15 ++ (wsL_law0_r16 ++ (wsL_law0_r17 ++ (wsL_law0_r18 ++ (wsL_law0_r19 ++ (wsL_law0_r20 ++ (wsL_law0_r21 ++ (wsL_law0_r22 ++ (wsL_law0_r23 ++ wsL_law0_r24))))))))))))))))))))))) ++ wsX10 ++ wsX30 ++ wsX00 ++ wsX20 ++ ([] : List Cond)
def wsL_law : List Cond := wsL_law0 ++ (vx_atS RX1 40 "java/lang/IllegalArgumentException" ["java/lang/RuntimeException", "java/lang/Exception"]).filter goodWord ++ (vx_atS RX1 51 "java/lang/IllegalStateException" ["java/lang/RuntimeException", "java/lang/Exception"]).filter goodWord ++ (vx_atS RX1 60 "java/lang/IndexOutOfBoundsException" ["java/lang/RuntimeException", "java/lang/Exception"]).filter goodWord
abbrev vwCl : List vw_C := [(RX0, TX0, 10), (RX1, TX1, 7), (RX2, TX2, 10), (RX3, TX3, 10)]
end

section
theorem dX0_init_0 : decode cX0_init 0 = .ok (.aload_n 0, 1) := by decide +kernel
theorem dX0_init_1 : decode cX0_init 1 = .ok (.invokespecial 3, 3) := by decide +kernel
theorem dX0_init_4 : decode cX0_init 4 = .ok (.aload_n 0, 1) := by decide +kernel
theorem dX0_init_5 : decode cX0_init 5 = .ok (.bipush 60, 2) := by decide +kernel
theorem dX0_init_7 : decode cX0_init 7 = .ok (.newarray .int, 2) := by decide +kernel
theorem dX0_init_9 : decode cX0_init 9 = .ok (.putfield 9, 3) := by decide +kernel
theorem dX0_init_12 : decode cX0_init 12 = .ok (.aload_n 0, 1) := by decide +kernel
theorem dX0_init_13 : decode cX0_init 13 = .ok (.bipush 60, 2) := by decide +kernel
theorem dX0_init_15 : decode cX0_init 15 = .ok (.newarray .int, 2) := by decide +kernel
theorem dX0_init_17 : decode cX0_init 17 = .ok (.putfield 15, 3) := by decide +kernel
theorem dX0_init_20 : decode cX0_init 20 = .ok (.aload_n 0, 1) := by decide +kernel
theorem dX0_init_21 : decode cX0_init 21 = .ok (.bipush 60, 2) := by decide +kernel
theorem dX0_init_23 : decode cX0_init 23 = .ok (.newarray .int, 2) := by decide +kernel
theorem dX0_init_25 : decode cX0_init 25 = .ok (.putfield 18, 3) := by decide +kernel
theorem dX0_init_28 : decode cX0_init 28 = .ok (.aload_n 0, 1) := by decide +kernel
theorem dX0_init_29 : decode cX0_init 29 = .ok (.bipush 60, 2) := by decide +kernel
theorem dX0_init_31 : decode cX0_init 31 = .ok (.newarray .int, 2) := by decide +kernel
theorem dX0_init_33 : decode cX0_init 33 = .ok (.putfield 21, 3) := by decide +kernel
theorem dX0_init_36 : decode cX0_init 36 = .ok (.aload_n 0, 1) := by decide +kernel
theorem dX0_init_37 : decode cX0_init 37 = .ok (.iload_n 1, 1) := by decide +kernel
theorem dX0_init_38 : decode cX0_init 38 = .ok (.putfield 24, 3) := by decide +kernel
theorem dX0_init_41 : decode cX0_init 41 = .ok (.aload_n 0, 1) := by decide +kernel
theorem dX0_init_42 : decode cX0_init 42 = .ok (.iload_n 2, 1) := by decide +kernel
theorem dX0_init_43 : decode cX0_init 43 = .ok (.putfield 28, 3) := by decide +kernel
theorem dX0_init_46 : decode cX0_init 46 = .ok (.aload_n 0, 1) := by decide +kernel
theorem dX0_init_47 : decode cX0_init 47 = .ok (.iload_n 3, 1) := by decide +kernel
theorem dX0_init_48 : decode cX0_init 48 = .ok (.putfield 31, 3) := by decide +kernel
theorem dX0_init_51 : decode cX0_init 51 = .ok (.aload_n 0, 1) := by decide +kernel
theorem dX0_init_52 : decode cX0_init 52 = .ok (.bipush 100, 2) := by decide +kernel
theorem dX0_init_54 : decode cX0_init 54 = .ok (.putfield 34, 3) := by decide +kernel
theorem dX0_init_57 : decode cX0_init 57 = .ok (.return_, 1) := by decide +kernel
theorem dX0_wide_0 : decode cX0_wide 0 = .ok (.aload_n 0, 1) := by decide +kernel
theorem dX0_wide_1 : decode cX0_wide 1 = .ok (.getfield 24, 3) := by decide +kernel
theorem dX0_wide_4 : decode cX0_wide 4 = .ok (.ireturn, 1) := by decide +kernel
theorem dX0_high_0 : decode cX0_high 0 = .ok (.aload_n 0, 1) := by decide +kernel
theorem dX0_high_1 : decode cX0_high 1 = .ok (.getfield 28, 3) := by decide +kernel
theorem dX0_high_4 : decode cX0_high 4 = .ok (.ireturn, 1) := by decide +kernel
theorem dX0_thicknessAt_0 : decode cX0_thicknessAt 0 = .ok (.iload_n 1, 1) := by decide +kernel
theorem dX0_thicknessAt_1 : decode cX0_thicknessAt 1 = .ok (.ifCond .lt 23, 3) := by decide +kernel
theorem dX0_thicknessAt_4 : decode cX0_thicknessAt 4 = .ok (.iload_n 1, 1) := by decide +kernel
theorem dX0_thicknessAt_5 : decode cX0_thicknessAt 5 = .ok (.aload_n 0, 1) := by decide +kernel
theorem dX0_thicknessAt_6 : decode cX0_thicknessAt 6 = .ok (.getfield 28, 3) := by decide +kernel
theorem dX0_thicknessAt_9 : decode cX0_thicknessAt 9 = .ok (.if_icmp .ge 15, 3) := by decide +kernel
theorem dX0_thicknessAt_12 : decode cX0_thicknessAt 12 = .ok (.iload_n 2, 1) := by decide +kernel
theorem dX0_thicknessAt_13 : decode cX0_thicknessAt 13 = .ok (.ifCond .lt 11, 3) := by decide +kernel
theorem dX0_thicknessAt_16 : decode cX0_thicknessAt 16 = .ok (.iload_n 2, 1) := by decide +kernel
theorem dX0_thicknessAt_17 : decode cX0_thicknessAt 17 = .ok (.aload_n 0, 1) := by decide +kernel
theorem dX0_thicknessAt_18 : decode cX0_thicknessAt 18 = .ok (.getfield 24, 3) := by decide +kernel
theorem dX0_thicknessAt_21 : decode cX0_thicknessAt 21 = .ok (.if_icmp .lt 5, 3) := by decide +kernel
theorem dX0_thicknessAt_24 : decode cX0_thicknessAt 24 = .ok (.iconst 0, 1) := by decide +kernel
theorem dX0_thicknessAt_25 : decode cX0_thicknessAt 25 = .ok (.ireturn, 1) := by decide +kernel
theorem dX0_thicknessAt_26 : decode cX0_thicknessAt 26 = .ok (.aload_n 0, 1) := by decide +kernel
theorem dX0_thicknessAt_27 : decode cX0_thicknessAt 27 = .ok (.getfield 15, 3) := by decide +kernel
theorem dX0_thicknessAt_30 : decode cX0_thicknessAt 30 = .ok (.iload_n 1, 1) := by decide +kernel
theorem dX0_thicknessAt_31 : decode cX0_thicknessAt 31 = .ok (.aload_n 0, 1) := by decide +kernel
theorem dX0_thicknessAt_32 : decode cX0_thicknessAt 32 = .ok (.getfield 24, 3) := by decide +kernel
theorem dX0_thicknessAt_35 : decode cX0_thicknessAt 35 = .ok (.imul, 1) := by decide +kernel
theorem dX0_thicknessAt_36 : decode cX0_thicknessAt 36 = .ok (.iload_n 2, 1) := by decide +kernel
theorem dX0_thicknessAt_37 : decode cX0_thicknessAt 37 = .ok (.iadd, 1) := by decide +kernel
theorem dX0_thicknessAt_38 : decode cX0_thicknessAt 38 = .ok (.iaload, 1) := by decide +kernel
theorem dX0_thicknessAt_39 : decode cX0_thicknessAt 39 = .ok (.ireturn, 1) := by decide +kernel
set_option maxRecDepth 20000 in
theorem ggX0_hasYealm_X0_thicknessAt : GoodIn wsX0_hasYealm wsX0_thicknessAt := goodIn_r _ [5, 6, 7, 8, 9, 10, 11, 12, 13, 14, 15, 16, 17, 18] (by decide +kernel) (by decide +kernel)
set_option maxRecDepth 20000 in
theorem gX0_hasYealm_X0_thicknessAt : GoodIn wsX0_hasYealm (wsV RX0 47 RX0 yX0_thicknessAt wsX0_thicknessAt) := goodIn_app (goodIn_of _ (by decide +kernel)) ggX0_hasYealm_X0_thicknessAt
theorem dX0_hasYealm_0 : decode cX0_hasYealm 0 = .ok (.aload_n 0, 1) := by decide +kernel
theorem dX0_hasYealm_1 : decode cX0_hasYealm 1 = .ok (.iload_n 1, 1) := by decide +kernel
theorem dX0_hasYealm_2 : decode cX0_hasYealm 2 = .ok (.iload_n 2, 1) := by decide +kernel
theorem dX0_hasYealm_3 : decode cX0_hasYealm 3 = .ok (.invokevirtual 47, 3) := by decide +kernel
theorem dX0_hasYealm_6 : decode cX0_hasYealm 6 = .ok (.ifCond .le 7, 3) := by decide +kernel
theorem dX0_hasYealm_13 : decode cX0_hasYealm 13 = .ok (.iconst 0, 1) := by decide +kernel
theorem dX0_hasYealm_14 : decode cX0_hasYealm 14 = .ok (.ireturn, 1) := by decide +kernel
set_option maxRecDepth 20000 in
theorem ggX0_tellYealm_X0_hasYealm : GoodIn wsX0_tellYealm wsX0_hasYealm := goodIn_r _ [9, 10, 11, 12, 8, 13, 14, 15, 2, 28, 29, 30, 31, 32, 33, 34, 35, 36, 37] (by decide +kernel) (by decide +kernel)
set_option maxRecDepth 20000 in
theorem gX0_tellYealm_X0_hasYealm : GoodIn wsX0_tellYealm (wsV RX0 51 RX0 yX0_hasYealm wsX0_hasYealm) := goodIn_app (goodIn_of _ (by decide +kernel)) ggX0_tellYealm_X0_hasYealm
theorem dX0_tellYealm_0 : decode cX0_tellYealm 0 = .ok (.aload_n 0, 1) := by decide +kernel
theorem dX0_tellYealm_1 : decode cX0_tellYealm 1 = .ok (.iload_n 1, 1) := by decide +kernel
theorem dX0_tellYealm_2 : decode cX0_tellYealm 2 = .ok (.iload_n 2, 1) := by decide +kernel
theorem dX0_tellYealm_3 : decode cX0_tellYealm 3 = .ok (.invokevirtual 51, 3) := by decide +kernel
theorem dX0_tellYealm_6 : decode cX0_tellYealm 6 = .ok (.ifCond .ne 14, 3) := by decide +kernel
theorem dX0_tellYealm_9 : decode cX0_tellYealm 9 = .ok (.iload_n 3, 1) := by decide +kernel
theorem dX0_tellYealm_10 : decode cX0_tellYealm 10 = .ok (.iconst 1, 1) := by decide +kernel
theorem dX0_tellYealm_11 : decode cX0_tellYealm 11 = .ok (.if_icmp .ne 7, 3) := by decide +kernel
theorem dX0_tellYealm_14 : decode cX0_tellYealm 14 = .ok (.iconst (-1), 1) := by decide +kernel
theorem dX0_tellYealm_15 : decode cX0_tellYealm 15 = .ok (.goto 4, 3) := by decide +kernel
theorem dX0_tellYealm_18 : decode cX0_tellYealm 18 = .ok (.iconst 0, 1) := by decide +kernel
theorem dX0_tellYealm_19 : decode cX0_tellYealm 19 = .ok (.ireturn, 1) := by decide +kernel
set_option maxRecDepth 20000 in
theorem ggX0_tell_X0_yealms : GoodIn wsX0_tell wsX0_yealms := goodIn_r _ [11, 2, 1, 12, 13, 14, 10, 15, 16, 17, 18, 19, 20, 33, 34, 35, 36, 37, 38, 39, 40, 41, 42] (by decide +kernel) (by decide +kernel)
set_option maxRecDepth 20000 in
theorem gX0_tell_X0_yealms : GoodIn wsX0_tell (wsV RX0 72 RX0 yX0_yealms wsX0_yealms) := goodIn_app (goodIn_of _ (by decide +kernel)) ggX0_tell_X0_yealms
set_option maxRecDepth 20000 in
theorem ggX0_tell_X0_thicknessInAll : GoodIn wsX0_tell wsX0_thicknessInAll := goodIn_r _ [24, 1, 25, 26, 27, 10, 28, 2, 16, 17, 18, 19, 20, 33, 34, 35, 36, 37, 38, 39, 40, 41, 42] (by decide +kernel) (by decide +kernel)
set_option maxRecDepth 20000 in
theorem gX0_tell_X0_thicknessInAll : GoodIn wsX0_tell (wsV RX0 76 RX0 yX0_thicknessInAll wsX0_thicknessInAll) := goodIn_app (goodIn_of _ (by decide +kernel)) ggX0_tell_X0_thicknessInAll
set_option maxRecDepth 20000 in
theorem ggX0_tell_X0_leaks : GoodIn wsX0_tell wsX0_leaks := goodIn_r _ [32, 1, 2, 25, 26, 27, 10, 28, 16, 17, 18, 19, 20, 12, 13, 14, 15, 33, 34, 35, 36, 37, 38, 39, 40, 41, 42] (by decide +kernel) (by decide +kernel)
set_option maxRecDepth 20000 in
theorem gX0_tell_X0_leaks : GoodIn wsX0_tell (wsV RX0 79 RX0 yX0_leaks wsX0_leaks) := goodIn_app (goodIn_of _ (by decide +kernel)) ggX0_tell_X0_leaks
theorem dX0_tell_0 : decode cX0_tell 0 = .ok (.iload_n 1, 1) := by decide +kernel
theorem dX0_tell_1 : decode cX0_tell 1 = .ok (.tableswitch 87 0 7 #[47, 52, 57, 62, 67, 72, 77, 82], 47) := by decide +kernel
theorem dX0_tell_48 : decode cX0_tell 48 = .ok (.aload_n 0, 1) := by decide +kernel
theorem dX0_tell_49 : decode cX0_tell 49 = .ok (.getfield 24, 3) := by decide +kernel
theorem dX0_tell_52 : decode cX0_tell 52 = .ok (.ireturn, 1) := by decide +kernel
theorem dX0_tell_53 : decode cX0_tell 53 = .ok (.aload_n 0, 1) := by decide +kernel
theorem dX0_tell_54 : decode cX0_tell 54 = .ok (.getfield 28, 3) := by decide +kernel
theorem dX0_tell_57 : decode cX0_tell 57 = .ok (.ireturn, 1) := by decide +kernel
theorem dX0_tell_58 : decode cX0_tell 58 = .ok (.aload_n 0, 1) := by decide +kernel
theorem dX0_tell_59 : decode cX0_tell 59 = .ok (.getfield 31, 3) := by decide +kernel
theorem dX0_tell_62 : decode cX0_tell 62 = .ok (.ireturn, 1) := by decide +kernel
theorem dX0_tell_63 : decode cX0_tell 63 = .ok (.aload_n 0, 1) := by decide +kernel
theorem dX0_tell_64 : decode cX0_tell 64 = .ok (.getfield 34, 3) := by decide +kernel
theorem dX0_tell_67 : decode cX0_tell 67 = .ok (.ireturn, 1) := by decide +kernel
theorem dX0_tell_68 : decode cX0_tell 68 = .ok (.aload_n 0, 1) := by decide +kernel
theorem dX0_tell_69 : decode cX0_tell 69 = .ok (.invokevirtual 72, 3) := by decide +kernel
theorem dX0_tell_72 : decode cX0_tell 72 = .ok (.ireturn, 1) := by decide +kernel
theorem dX0_tell_73 : decode cX0_tell 73 = .ok (.aload_n 0, 1) := by decide +kernel
theorem dX0_tell_74 : decode cX0_tell 74 = .ok (.invokevirtual 76, 3) := by decide +kernel
theorem dX0_tell_77 : decode cX0_tell 77 = .ok (.ireturn, 1) := by decide +kernel
theorem dX0_tell_78 : decode cX0_tell 78 = .ok (.aload_n 0, 1) := by decide +kernel
theorem dX0_tell_79 : decode cX0_tell 79 = .ok (.invokevirtual 79, 3) := by decide +kernel
theorem dX0_tell_82 : decode cX0_tell 82 = .ok (.ireturn, 1) := by decide +kernel
theorem dX0_tell_83 : decode cX0_tell 83 = .ok (.aload_n 0, 1) := by decide +kernel
theorem dX0_tell_84 : decode cX0_tell 84 = .ok (.getfield 82, 3) := by decide +kernel
theorem dX0_tell_87 : decode cX0_tell 87 = .ok (.ireturn, 1) := by decide +kernel
theorem dX0_tell_88 : decode cX0_tell 88 = .ok (.aload_n 0, 1) := by decide +kernel
theorem dX0_tell_89 : decode cX0_tell 89 = .ok (.getfield 85, 3) := by decide +kernel
theorem dX0_tell_92 : decode cX0_tell 92 = .ok (.ireturn, 1) := by decide +kernel
set_option maxRecDepth 20000 in
theorem ggX0_yealms_X0_hasYealm : GoodIn wsX0_yealms wsX0_hasYealm := goodIn_r _ [7, 8, 9, 10, 6, 11, 1, 2, 12, 13, 14, 15, 16, 17, 18, 19, 20, 21, 22] (by decide +kernel) (by decide +kernel)
set_option maxRecDepth 20000 in
theorem gX0_yealms_X0_hasYealm : GoodIn wsX0_yealms (wsV RX0 51 RX0 yX0_hasYealm wsX0_hasYealm) := goodIn_app (goodIn_of _ (by decide +kernel)) ggX0_yealms_X0_hasYealm
theorem dX0_yealms_0 : decode cX0_yealms 0 = .ok (.iconst 0, 1) := by decide +kernel
theorem dX0_yealms_1 : decode cX0_yealms 1 = .ok (.istore_n 1, 1) := by decide +kernel
theorem dX0_yealms_2 : decode cX0_yealms 2 = .ok (.iconst 0, 1) := by decide +kernel
theorem dX0_yealms_3 : decode cX0_yealms 3 = .ok (.istore_n 2, 1) := by decide +kernel
theorem dX0_yealms_4 : decode cX0_yealms 4 = .ok (.iload_n 2, 1) := by decide +kernel
theorem dX0_yealms_5 : decode cX0_yealms 5 = .ok (.aload_n 0, 1) := by decide +kernel
theorem dX0_yealms_6 : decode cX0_yealms 6 = .ok (.getfield 28, 3) := by decide +kernel
theorem dX0_yealms_9 : decode cX0_yealms 9 = .ok (.if_icmp .ge 37, 3) := by decide +kernel
theorem dX0_yealms_12 : decode cX0_yealms 12 = .ok (.iconst 0, 1) := by decide +kernel
theorem dX0_yealms_13 : decode cX0_yealms 13 = .ok (.istore_n 3, 1) := by decide +kernel
theorem dX0_yealms_14 : decode cX0_yealms 14 = .ok (.iload_n 3, 1) := by decide +kernel
theorem dX0_yealms_15 : decode cX0_yealms 15 = .ok (.aload_n 0, 1) := by decide +kernel
theorem dX0_yealms_16 : decode cX0_yealms 16 = .ok (.getfield 24, 3) := by decide +kernel
theorem dX0_yealms_19 : decode cX0_yealms 19 = .ok (.if_icmp .ge 21, 3) := by decide +kernel
theorem dX0_yealms_22 : decode cX0_yealms 22 = .ok (.aload_n 0, 1) := by decide +kernel
theorem dX0_yealms_23 : decode cX0_yealms 23 = .ok (.iload_n 2, 1) := by decide +kernel
theorem dX0_yealms_24 : decode cX0_yealms 24 = .ok (.iload_n 3, 1) := by decide +kernel
theorem dX0_yealms_25 : decode cX0_yealms 25 = .ok (.invokevirtual 51, 3) := by decide +kernel
theorem dX0_yealms_28 : decode cX0_yealms 28 = .ok (.ifCond .eq 6, 3) := by decide +kernel
theorem dX0_yealms_34 : decode cX0_yealms 34 = .ok (.iinc 3 1, 3) := by decide +kernel
theorem dX0_yealms_37 : decode cX0_yealms 37 = .ok (.goto (-23), 3) := by decide +kernel
theorem dX0_yealms_40 : decode cX0_yealms 40 = .ok (.iinc 2 1, 3) := by decide +kernel
theorem dX0_yealms_43 : decode cX0_yealms 43 = .ok (.goto (-39), 3) := by decide +kernel
theorem dX0_yealms_46 : decode cX0_yealms 46 = .ok (.iload_n 1, 1) := by decide +kernel
theorem dX0_yealms_47 : decode cX0_yealms 47 = .ok (.ireturn, 1) := by decide +kernel
set_option maxRecDepth 20000 in
theorem ggX0_thicknessInAll_X0_thicknessOver : GoodIn wsX0_thicknessInAll wsX0_thicknessOver := goodIn_r _ [6, 7, 8, 9, 10, 5, 11, 1, 12, 13, 14, 15, 16, 17, 18, 19, 20, 21, 22] (by decide +kernel) (by decide +kernel)
set_option maxRecDepth 20000 in
theorem gX0_thicknessInAll_X0_thicknessOver : GoodIn wsX0_thicknessInAll (wsV RX0 88 RX0 yX0_thicknessOver wsX0_thicknessOver) := goodIn_app (goodIn_of _ (by decide +kernel)) ggX0_thicknessInAll_X0_thicknessOver
theorem dX0_thicknessInAll_0 : decode cX0_thicknessInAll 0 = .ok (.iconst 0, 1) := by decide +kernel
theorem dX0_thicknessInAll_1 : decode cX0_thicknessInAll 1 = .ok (.istore_n 1, 1) := by decide +kernel
theorem dX0_thicknessInAll_2 : decode cX0_thicknessInAll 2 = .ok (.iconst 0, 1) := by decide +kernel
theorem dX0_thicknessInAll_3 : decode cX0_thicknessInAll 3 = .ok (.istore_n 2, 1) := by decide +kernel
theorem dX0_thicknessInAll_4 : decode cX0_thicknessInAll 4 = .ok (.iload_n 2, 1) := by decide +kernel
theorem dX0_thicknessInAll_5 : decode cX0_thicknessInAll 5 = .ok (.aload_n 0, 1) := by decide +kernel
theorem dX0_thicknessInAll_6 : decode cX0_thicknessInAll 6 = .ok (.getfield 24, 3) := by decide +kernel
theorem dX0_thicknessInAll_9 : decode cX0_thicknessInAll 9 = .ok (.if_icmp .ge 17, 3) := by decide +kernel
theorem dX0_thicknessInAll_12 : decode cX0_thicknessInAll 12 = .ok (.iload_n 1, 1) := by decide +kernel
theorem dX0_thicknessInAll_13 : decode cX0_thicknessInAll 13 = .ok (.aload_n 0, 1) := by decide +kernel
theorem dX0_thicknessInAll_14 : decode cX0_thicknessInAll 14 = .ok (.iload_n 2, 1) := by decide +kernel
theorem dX0_thicknessInAll_15 : decode cX0_thicknessInAll 15 = .ok (.invokevirtual 88, 3) := by decide +kernel
theorem dX0_thicknessInAll_18 : decode cX0_thicknessInAll 18 = .ok (.iadd, 1) := by decide +kernel
theorem dX0_thicknessInAll_19 : decode cX0_thicknessInAll 19 = .ok (.istore_n 1, 1) := by decide +kernel
theorem dX0_thicknessInAll_20 : decode cX0_thicknessInAll 20 = .ok (.iinc 2 1, 3) := by decide +kernel
theorem dX0_thicknessInAll_23 : decode cX0_thicknessInAll 23 = .ok (.goto (-19), 3) := by decide +kernel
theorem dX0_thicknessInAll_26 : decode cX0_thicknessInAll 26 = .ok (.iload_n 1, 1) := by decide +kernel
theorem dX0_thicknessInAll_27 : decode cX0_thicknessInAll 27 = .ok (.ireturn, 1) := by decide +kernel
set_option maxRecDepth 20000 in
theorem ggX0_thicknessOver_X0_thicknessAt : GoodIn wsX0_thicknessOver wsX0_thicknessAt := goodIn_r _ [6, 1, 7, 8, 9, 10, 11, 12, 13, 14, 15, 16, 17, 18] (by decide +kernel) (by decide +kernel)
set_option maxRecDepth 20000 in
theorem gX0_thicknessOver_X0_thicknessAt : GoodIn wsX0_thicknessOver (wsV RX0 47 RX0 yX0_thicknessAt wsX0_thicknessAt) := goodIn_app (goodIn_of _ (by decide +kernel)) ggX0_thicknessOver_X0_thicknessAt
theorem dX0_thicknessOver_0 : decode cX0_thicknessOver 0 = .ok (.iconst 0, 1) := by decide +kernel
theorem dX0_thicknessOver_1 : decode cX0_thicknessOver 1 = .ok (.istore_n 2, 1) := by decide +kernel
theorem dX0_thicknessOver_2 : decode cX0_thicknessOver 2 = .ok (.iconst 0, 1) := by decide +kernel
theorem dX0_thicknessOver_3 : decode cX0_thicknessOver 3 = .ok (.istore_n 3, 1) := by decide +kernel
theorem dX0_thicknessOver_4 : decode cX0_thicknessOver 4 = .ok (.iload_n 3, 1) := by decide +kernel
theorem dX0_thicknessOver_5 : decode cX0_thicknessOver 5 = .ok (.aload_n 0, 1) := by decide +kernel
theorem dX0_thicknessOver_6 : decode cX0_thicknessOver 6 = .ok (.getfield 28, 3) := by decide +kernel
theorem dX0_thicknessOver_9 : decode cX0_thicknessOver 9 = .ok (.if_icmp .ge 18, 3) := by decide +kernel
theorem dX0_thicknessOver_12 : decode cX0_thicknessOver 12 = .ok (.iload_n 2, 1) := by decide +kernel
theorem dX0_thicknessOver_13 : decode cX0_thicknessOver 13 = .ok (.aload_n 0, 1) := by decide +kernel
theorem dX0_thicknessOver_14 : decode cX0_thicknessOver 14 = .ok (.iload_n 3, 1) := by decide +kernel
theorem dX0_thicknessOver_15 : decode cX0_thicknessOver 15 = .ok (.iload_n 1, 1) := by decide +kernel
theorem dX0_thicknessOver_16 : decode cX0_thicknessOver 16 = .ok (.invokevirtual 47, 3) := by decide +kernel
theorem dX0_thicknessOver_19 : decode cX0_thicknessOver 19 = .ok (.iadd, 1) := by decide +kernel
theorem dX0_thicknessOver_20 : decode cX0_thicknessOver 20 = .ok (.istore_n 2, 1) := by decide +kernel
theorem dX0_thicknessOver_21 : decode cX0_thicknessOver 21 = .ok (.iinc 3 1, 3) := by decide +kernel
theorem dX0_thicknessOver_24 : decode cX0_thicknessOver 24 = .ok (.goto (-20), 3) := by decide +kernel
theorem dX0_thicknessOver_27 : decode cX0_thicknessOver 27 = .ok (.iload_n 2, 1) := by decide +kernel
theorem dX0_thicknessOver_28 : decode cX0_thicknessOver 28 = .ok (.ireturn, 1) := by decide +kernel
set_option maxRecDepth 20000 in
theorem ggX0_leaks_X0_thicknessOver : GoodIn wsX0_leaks wsX0_thicknessOver := goodIn_r _ [7, 2, 8, 9, 10, 6, 11, 1, 12, 17, 18, 19, 20, 21, 22, 23, 24, 25, 26] (by decide +kernel) (by decide +kernel)
set_option maxRecDepth 20000 in
theorem gX0_leaks_X0_thicknessOver : GoodIn wsX0_leaks (wsV RX0 88 RX0 yX0_thicknessOver wsX0_thicknessOver) := goodIn_app (goodIn_of _ (by decide +kernel)) ggX0_leaks_X0_thicknessOver
theorem dX0_leaks_0 : decode cX0_leaks 0 = .ok (.iconst 0, 1) := by decide +kernel
theorem dX0_leaks_1 : decode cX0_leaks 1 = .ok (.istore_n 1, 1) := by decide +kernel
theorem dX0_leaks_2 : decode cX0_leaks 2 = .ok (.iconst 0, 1) := by decide +kernel
theorem dX0_leaks_3 : decode cX0_leaks 3 = .ok (.istore_n 2, 1) := by decide +kernel
theorem dX0_leaks_4 : decode cX0_leaks 4 = .ok (.iload_n 2, 1) := by decide +kernel
theorem dX0_leaks_5 : decode cX0_leaks 5 = .ok (.aload_n 0, 1) := by decide +kernel
theorem dX0_leaks_6 : decode cX0_leaks 6 = .ok (.getfield 24, 3) := by decide +kernel
theorem dX0_leaks_9 : decode cX0_leaks 9 = .ok (.if_icmp .ge 41, 3) := by decide +kernel
theorem dX0_leaks_12 : decode cX0_leaks 12 = .ok (.aload_n 0, 1) := by decide +kernel
theorem dX0_leaks_13 : decode cX0_leaks 13 = .ok (.iload_n 2, 1) := by decide +kernel
theorem dX0_leaks_14 : decode cX0_leaks 14 = .ok (.invokevirtual 88, 3) := by decide +kernel
theorem dX0_leaks_17 : decode cX0_leaks 17 = .ok (.bipush 8, 2) := by decide +kernel
theorem dX0_leaks_19 : decode cX0_leaks 19 = .ok (.aload_n 0, 1) := by decide +kernel
theorem dX0_leaks_20 : decode cX0_leaks 20 = .ok (.getfield 28, 3) := by decide +kernel
theorem dX0_leaks_23 : decode cX0_leaks 23 = .ok (.imul, 1) := by decide +kernel
theorem dX0_leaks_24 : decode cX0_leaks 24 = .ok (.if_icmp .lt 17, 3) := by decide +kernel
theorem dX0_leaks_41 : decode cX0_leaks 41 = .ok (.iinc 1 1, 3) := by decide +kernel
theorem dX0_leaks_44 : decode cX0_leaks 44 = .ok (.iinc 2 1, 3) := by decide +kernel
theorem dX0_leaks_47 : decode cX0_leaks 47 = .ok (.goto (-43), 3) := by decide +kernel
theorem dX0_leaks_50 : decode cX0_leaks 50 = .ok (.iload_n 1, 1) := by decide +kernel
theorem dX0_leaks_51 : decode cX0_leaks 51 = .ok (.ireturn, 1) := by decide +kernel
set_option maxRecDepth 20000 in
theorem ggX1_init_X0_init : GoodIn wsX1_init wsX0_init := goodIn_r _ [15, 16, 2, 3, 6, 17, 18, 19, 20, 21, 22, 23, 24, 32, 33, 34, 35, 36, 37, 38, 39, 40, 41] (by decide +kernel) (by decide +kernel)
set_option maxRecDepth 20000 in
theorem gX1_init_X0_init : GoodIn wsX1_init (wsX0_init) := ggX1_init_X0_init
end

section
theorem dX1_init_0 : decode cX1_init 0 = .ok (.aload_n 0, 1) := by decide +kernel
theorem dX1_init_1 : decode cX1_init 1 = .ok (.invokespecial 3, 3) := by decide +kernel
theorem dX1_init_4 : decode cX1_init 4 = .ok (.aload_n 0, 1) := by decide +kernel
theorem dX1_init_5 : decode cX1_init 5 = .ok (.bipush 6, 2) := by decide +kernel
theorem dX1_init_7 : decode cX1_init 7 = .ok (.anewarray 9, 3) := by decide +kernel
theorem dX1_init_10 : decode cX1_init 10 = .ok (.putfield 11, 3) := by decide +kernel
theorem dX1_init_13 : decode cX1_init 13 = .ok (.aload_n 0, 1) := by decide +kernel
theorem dX1_init_14 : decode cX1_init 14 = .ok (.iconst 3, 1) := by decide +kernel
theorem dX1_init_15 : decode cX1_init 15 = .ok (.newarray .int, 2) := by decide +kernel
theorem dX1_init_17 : decode cX1_init 17 = .ok (.putfield 15, 3) := by decide +kernel
theorem dX1_init_20 : decode cX1_init 20 = .ok (.aload_n 0, 1) := by decide +kernel
theorem dX1_init_21 : decode cX1_init 21 = .ok (.bipush 12, 2) := by decide +kernel
theorem dX1_init_23 : decode cX1_init 23 = .ok (.newarray .int, 2) := by decide +kernel
theorem dX1_init_25 : decode cX1_init 25 = .ok (.putfield 19, 3) := by decide +kernel
theorem dX1_init_28 : decode cX1_init 28 = .ok (.aload_n 0, 1) := by decide +kernel
theorem dX1_init_29 : decode cX1_init 29 = .ok (.bipush 12, 2) := by decide +kernel
theorem dX1_init_31 : decode cX1_init 31 = .ok (.newarray .int, 2) := by decide +kernel
theorem dX1_init_33 : decode cX1_init 33 = .ok (.putfield 22, 3) := by decide +kernel
theorem dX1_init_36 : decode cX1_init 36 = .ok (.aload_n 0, 1) := by decide +kernel
theorem dX1_init_37 : decode cX1_init 37 = .ok (.new 9, 3) := by decide +kernel
theorem dX1_init_40 : decode cX1_init 40 = .ok (.dup, 1) := by decide +kernel
theorem dX1_init_41 : decode cX1_init 41 = .ok (.iconst 2, 1) := by decide +kernel
theorem dX1_init_42 : decode cX1_init 42 = .ok (.iconst 2, 1) := by decide +kernel
theorem dX1_init_43 : decode cX1_init 43 = .ok (.bipush 30, 2) := by decide +kernel
theorem dX1_init_45 : decode cX1_init 45 = .ok (.invokespecial 25, 3) := by decide +kernel
theorem dX1_init_48 : decode cX1_init 48 = .ok (.putfield 28, 3) := by decide +kernel
theorem dX1_init_51 : decode cX1_init 51 = .ok (.iconst 0, 1) := by decide +kernel
theorem dX1_init_52 : decode cX1_init 52 = .ok (.istore_n 1, 1) := by decide +kernel
theorem dX1_init_53 : decode cX1_init 53 = .ok (.iload_n 1, 1) := by decide +kernel
theorem dX1_init_54 : decode cX1_init 54 = .ok (.bipush 12, 2) := by decide +kernel
theorem dX1_init_56 : decode cX1_init 56 = .ok (.if_icmp .ge 16, 3) := by decide +kernel
theorem dX1_init_59 : decode cX1_init 59 = .ok (.aload_n 0, 1) := by decide +kernel
theorem dX1_init_60 : decode cX1_init 60 = .ok (.getfield 19, 3) := by decide +kernel
theorem dX1_init_63 : decode cX1_init 63 = .ok (.iload_n 1, 1) := by decide +kernel
theorem dX1_init_64 : decode cX1_init 64 = .ok (.iconst 4, 1) := by decide +kernel
theorem dX1_init_65 : decode cX1_init 65 = .ok (.iastore, 1) := by decide +kernel
theorem dX1_init_66 : decode cX1_init 66 = .ok (.iinc 1 1, 3) := by decide +kernel
theorem dX1_init_69 : decode cX1_init 69 = .ok (.goto (-16), 3) := by decide +kernel
theorem dX1_init_72 : decode cX1_init 72 = .ok (.return_, 1) := by decide +kernel
set_option maxRecDepth 20000 in
theorem ggX1_build_X1_isWithin : GoodIn wsX1_build wsX1_isWithin := goodIn_r _ [13] (by decide +kernel) (by decide +kernel)
set_option maxRecDepth 20000 in
theorem gX1_build_X1_isWithin : GoodIn wsX1_build (va_wsS RX1 32 yX1_isWithin wsX1_isWithin) := goodIn_app (goodIn_of _ (by decide +kernel)) ggX1_build_X1_isWithin
set_option maxRecDepth 20000 in
theorem ggX1_build_X0_init : GoodIn wsX1_build wsX0_init := goodIn_r _ [16, 17, 18, 19, 20, 21, 22, 23, 24, 25, 26, 27, 28, 36, 37, 38, 39, 40, 41, 42, 43, 44, 45] (by decide +kernel) (by decide +kernel)
set_option maxRecDepth 20000 in
theorem gX1_build_X0_init : GoodIn wsX1_build (wsX0_init) := ggX1_build_X0_init
theorem dX1_build_0 : decode cX1_build 0 = .ok (.iload_n 1, 1) := by decide +kernel
theorem dX1_build_1 : decode cX1_build 1 = .ok (.iconst 2, 1) := by decide +kernel
theorem dX1_build_2 : decode cX1_build 2 = .ok (.bipush 10, 2) := by decide +kernel
theorem dX1_build_4 : decode cX1_build 4 = .ok (.invokestatic 32, 3) := by decide +kernel
theorem dX1_build_7 : decode cX1_build 7 = .ok (.ifCond .eq 24, 3) := by decide +kernel
theorem dX1_build_10 : decode cX1_build 10 = .ok (.iload_n 2, 1) := by decide +kernel
theorem dX1_build_11 : decode cX1_build 11 = .ok (.iconst 2, 1) := by decide +kernel
theorem dX1_build_12 : decode cX1_build 12 = .ok (.bipush 6, 2) := by decide +kernel
theorem dX1_build_14 : decode cX1_build 14 = .ok (.invokestatic 32, 3) := by decide +kernel
theorem dX1_build_17 : decode cX1_build 17 = .ok (.ifCond .eq 14, 3) := by decide +kernel
theorem dX1_build_20 : decode cX1_build 20 = .ok (.iload_n 3, 1) := by decide +kernel
theorem dX1_build_21 : decode cX1_build 21 = .ok (.bipush 30, 2) := by decide +kernel
theorem dX1_build_23 : decode cX1_build 23 = .ok (.bipush 60, 2) := by decide +kernel
theorem dX1_build_25 : decode cX1_build 25 = .ok (.invokestatic 32, 3) := by decide +kernel
theorem dX1_build_28 : decode cX1_build 28 = .ok (.ifCond .ne 13, 3) := by decide +kernel
theorem dX1_build_41 : decode cX1_build 41 = .ok (.aload_n 0, 1) := by decide +kernel
theorem dX1_build_42 : decode cX1_build 42 = .ok (.getfield 43, 3) := by decide +kernel
theorem dX1_build_45 : decode cX1_build 45 = .ok (.bipush 6, 2) := by decide +kernel
theorem dX1_build_47 : decode cX1_build 47 = .ok (.if_icmp .lt 13, 3) := by decide +kernel
theorem dX1_build_60 : decode cX1_build 60 = .ok (.aload_n 0, 1) := by decide +kernel
theorem dX1_build_61 : decode cX1_build 61 = .ok (.getfield 43, 3) := by decide +kernel
theorem dX1_build_64 : decode cX1_build 64 = .ok (.istore 4, 2) := by decide +kernel
theorem dX1_build_66 : decode cX1_build 66 = .ok (.aload_n 0, 1) := by decide +kernel
theorem dX1_build_67 : decode cX1_build 67 = .ok (.getfield 11, 3) := by decide +kernel
theorem dX1_build_70 : decode cX1_build 70 = .ok (.iload 4, 2) := by decide +kernel
theorem dX1_build_72 : decode cX1_build 72 = .ok (.new 9, 3) := by decide +kernel
theorem dX1_build_75 : decode cX1_build 75 = .ok (.dup, 1) := by decide +kernel
theorem dX1_build_76 : decode cX1_build 76 = .ok (.iload_n 1, 1) := by decide +kernel
theorem dX1_build_77 : decode cX1_build 77 = .ok (.iload_n 2, 1) := by decide +kernel
theorem dX1_build_78 : decode cX1_build 78 = .ok (.iload_n 3, 1) := by decide +kernel
theorem dX1_build_79 : decode cX1_build 79 = .ok (.invokespecial 25, 3) := by decide +kernel
theorem dX1_build_82 : decode cX1_build 82 = .ok (.aastore, 1) := by decide +kernel
theorem dX1_build_83 : decode cX1_build 83 = .ok (.aload_n 0, 1) := by decide +kernel
theorem dX1_build_84 : decode cX1_build 84 = .ok (.dup, 1) := by decide +kernel
theorem dX1_build_85 : decode cX1_build 85 = .ok (.getfield 43, 3) := by decide +kernel
theorem dX1_build_88 : decode cX1_build 88 = .ok (.iconst 1, 1) := by decide +kernel
theorem dX1_build_89 : decode cX1_build 89 = .ok (.iadd, 1) := by decide +kernel
theorem dX1_build_90 : decode cX1_build 90 = .ok (.putfield 43, 3) := by decide +kernel
theorem dX1_build_93 : decode cX1_build 93 = .ok (.iload 4, 2) := by decide +kernel
theorem dX1_build_95 : decode cX1_build 95 = .ok (.ireturn, 1) := by decide +kernel
set_option maxRecDepth 20000 in
theorem ggX1_digest_X1_tally : GoodIn wsX1_digest wsX1_tally := goodIn_r _ [10, 11, 12, 13, 14, 15, 16, 9, 17, 5, 18, 19, 20, 21, 22, 23, 24, 25, 26, 27, 28, 29, 30, 31, 32, 33, 34, 35, 36, 37, 38, 39, 40, 41, 42, 43, 44, 45, 46, 47, 48, 49, 50, 51, 52, 53, 54, 55, 56, 57, 3, 58, 59, 60, 61, 62, 63, 64, 65, 66, 67, 68, 69, 4, 100, 101, 102, 103, 104, 105, 106, 107, 108, 109, 110, 111, 112, 113, 114, 115, 116] (by decide +kernel) (by decide +kernel)
set_option maxRecDepth 20000 in
theorem gX1_digest_X1_tally : GoodIn wsX1_digest (wsV RX1 141 RX1 yX1_tally wsX1_tally) := goodIn_app (goodIn_of _ (by decide +kernel)) ggX1_digest_X1_tally
set_option maxRecDepth 20000 in
theorem ggX1_digest_X1_digestRoof : GoodIn wsX1_digest wsX1_digestRoof := goodIn_r _ [72, 2, 18, 19, 20, 21, 22, 23, 24, 25, 26, 27, 28, 29, 30, 31, 32, 33, 34, 35, 36, 37, 38, 39, 40, 41, 42, 43, 44, 45, 46, 47, 48, 49, 50, 51, 52, 53, 73, 74, 75, 76, 77, 78, 79, 80, 81, 82, 83, 84, 85, 86, 87, 88, 89, 90, 91, 92, 93, 94, 95, 96, 97, 98, 99, 107, 108, 109, 110, 111, 112, 113, 114, 115, 116] (by decide +kernel) (by decide +kernel)
set_option maxRecDepth 20000 in
theorem gX1_digest_X1_digestRoof : GoodIn wsX1_digest (va_wsS RX1 201 yX1_digestRoof wsX1_digestRoof) := goodIn_app (goodIn_of _ (by decide +kernel)) ggX1_digest_X1_digestRoof
theorem dX1_digest_0 : decode cX1_digest 0 = .ok (.ldc2_w 197, 3) := by decide +kernel
theorem dX1_digest_3 : decode cX1_digest 3 = .ok (.lstore_n 1, 1) := by decide +kernel
theorem dX1_digest_4 : decode cX1_digest 4 = .ok (.iconst 0, 1) := by decide +kernel
theorem dX1_digest_5 : decode cX1_digest 5 = .ok (.istore_n 3, 1) := by decide +kernel
theorem dX1_digest_6 : decode cX1_digest 6 = .ok (.iload_n 3, 1) := by decide +kernel
theorem dX1_digest_7 : decode cX1_digest 7 = .ok (.bipush 9, 2) := by decide +kernel
theorem dX1_digest_9 : decode cX1_digest 9 = .ok (.if_icmp .ge 22, 3) := by decide +kernel
theorem dX1_digest_12 : decode cX1_digest 12 = .ok (.lload_n 1, 1) := by decide +kernel
theorem dX1_digest_13 : decode cX1_digest 13 = .ok (.ldc2_w 199, 3) := by decide +kernel
theorem dX1_digest_16 : decode cX1_digest 16 = .ok (.lmul, 1) := by decide +kernel
theorem dX1_digest_17 : decode cX1_digest 17 = .ok (.aload_n 0, 1) := by decide +kernel
theorem dX1_digest_18 : decode cX1_digest 18 = .ok (.iload_n 3, 1) := by decide +kernel
theorem dX1_digest_19 : decode cX1_digest 19 = .ok (.invokevirtual 141, 3) := by decide +kernel
theorem dX1_digest_22 : decode cX1_digest 22 = .ok (.i2l, 1) := by decide +kernel
theorem dX1_digest_23 : decode cX1_digest 23 = .ok (.ladd, 1) := by decide +kernel
theorem dX1_digest_24 : decode cX1_digest 24 = .ok (.lstore_n 1, 1) := by decide +kernel
theorem dX1_digest_25 : decode cX1_digest 25 = .ok (.iinc 3 1, 3) := by decide +kernel
theorem dX1_digest_28 : decode cX1_digest 28 = .ok (.goto (-22), 3) := by decide +kernel
theorem dX1_digest_31 : decode cX1_digest 31 = .ok (.iconst 0, 1) := by decide +kernel
theorem dX1_digest_32 : decode cX1_digest 32 = .ok (.istore_n 3, 1) := by decide +kernel
theorem dX1_digest_33 : decode cX1_digest 33 = .ok (.iload_n 3, 1) := by decide +kernel
theorem dX1_digest_34 : decode cX1_digest 34 = .ok (.bipush 12, 2) := by decide +kernel
theorem dX1_digest_36 : decode cX1_digest 36 = .ok (.if_icmp .ge 33, 3) := by decide +kernel
theorem dX1_digest_39 : decode cX1_digest 39 = .ok (.lload_n 1, 1) := by decide +kernel
theorem dX1_digest_40 : decode cX1_digest 40 = .ok (.ldc2_w 199, 3) := by decide +kernel
theorem dX1_digest_43 : decode cX1_digest 43 = .ok (.lmul, 1) := by decide +kernel
theorem dX1_digest_44 : decode cX1_digest 44 = .ok (.bipush 10, 2) := by decide +kernel
theorem dX1_digest_46 : decode cX1_digest 46 = .ok (.aload_n 0, 1) := by decide +kernel
theorem dX1_digest_47 : decode cX1_digest 47 = .ok (.getfield 19, 3) := by decide +kernel
theorem dX1_digest_50 : decode cX1_digest 50 = .ok (.iload_n 3, 1) := by decide +kernel
theorem dX1_digest_51 : decode cX1_digest 51 = .ok (.iaload, 1) := by decide +kernel
theorem dX1_digest_52 : decode cX1_digest 52 = .ok (.imul, 1) := by decide +kernel
theorem dX1_digest_53 : decode cX1_digest 53 = .ok (.aload_n 0, 1) := by decide +kernel
theorem dX1_digest_54 : decode cX1_digest 54 = .ok (.getfield 22, 3) := by decide +kernel
theorem dX1_digest_57 : decode cX1_digest 57 = .ok (.iload_n 3, 1) := by decide +kernel
theorem dX1_digest_58 : decode cX1_digest 58 = .ok (.iaload, 1) := by decide +kernel
theorem dX1_digest_59 : decode cX1_digest 59 = .ok (.iadd, 1) := by decide +kernel
theorem dX1_digest_60 : decode cX1_digest 60 = .ok (.i2l, 1) := by decide +kernel
theorem dX1_digest_61 : decode cX1_digest 61 = .ok (.ladd, 1) := by decide +kernel
theorem dX1_digest_62 : decode cX1_digest 62 = .ok (.lstore_n 1, 1) := by decide +kernel
theorem dX1_digest_63 : decode cX1_digest 63 = .ok (.iinc 3 1, 3) := by decide +kernel
theorem dX1_digest_66 : decode cX1_digest 66 = .ok (.goto (-33), 3) := by decide +kernel
theorem dX1_digest_69 : decode cX1_digest 69 = .ok (.iconst 0, 1) := by decide +kernel
theorem dX1_digest_70 : decode cX1_digest 70 = .ok (.istore_n 3, 1) := by decide +kernel
theorem dX1_digest_71 : decode cX1_digest 71 = .ok (.iload_n 3, 1) := by decide +kernel
theorem dX1_digest_72 : decode cX1_digest 72 = .ok (.bipush 6, 2) := by decide +kernel
theorem dX1_digest_74 : decode cX1_digest 74 = .ok (.if_icmp .ge 29, 3) := by decide +kernel
theorem dX1_digest_77 : decode cX1_digest 77 = .ok (.aload_n 0, 1) := by decide +kernel
theorem dX1_digest_78 : decode cX1_digest 78 = .ok (.getfield 11, 3) := by decide +kernel
theorem dX1_digest_81 : decode cX1_digest 81 = .ok (.iload_n 3, 1) := by decide +kernel
theorem dX1_digest_82 : decode cX1_digest 82 = .ok (.aaload, 1) := by decide +kernel
theorem dX1_digest_83 : decode cX1_digest 83 = .ok (.astore 4, 2) := by decide +kernel
theorem dX1_digest_85 : decode cX1_digest 85 = .ok (.aload 4, 2) := by decide +kernel
theorem dX1_digest_87 : decode cX1_digest 87 = .ok (.ifnull 10, 3) := by decide +kernel
theorem dX1_digest_90 : decode cX1_digest 90 = .ok (.aload 4, 2) := by decide +kernel
theorem dX1_digest_92 : decode cX1_digest 92 = .ok (.lload_n 1, 1) := by decide +kernel
theorem dX1_digest_93 : decode cX1_digest 93 = .ok (.invokestatic 201, 3) := by decide +kernel
theorem dX1_digest_96 : decode cX1_digest 96 = .ok (.lstore_n 1, 1) := by decide +kernel
theorem dX1_digest_97 : decode cX1_digest 97 = .ok (.iinc 3 1, 3) := by decide +kernel
theorem dX1_digest_100 : decode cX1_digest 100 = .ok (.goto (-29), 3) := by decide +kernel
theorem dX1_digest_103 : decode cX1_digest 103 = .ok (.lload_n 1, 1) := by decide +kernel
theorem dX1_digest_104 : decode cX1_digest 104 = .ok (.lreturn, 1) := by decide +kernel
set_option maxRecDepth 20000 in
theorem ggX1_digestRoof_X0_tell : GoodIn wsX1_digestRoof wsX0_tell := goodIn_r _ [6, 7, 8, 9, 10, 11, 12, 13, 14, 15, 5, 16, 17, 18, 19, 20, 21, 22, 23, 24, 25, 26, 27, 28, 29, 30, 31, 32, 33, 34, 35, 36, 37, 65, 66, 67, 68, 69, 70, 71, 72, 73, 74] (by decide +kernel) (by decide +kernel)
set_option maxRecDepth 20000 in
theorem gX1_digestRoof_X0_tell : GoodIn wsX1_digestRoof (wsV RX1 136 RX0 yX0_tell wsX0_tell) := goodIn_app (goodIn_of _ (by decide +kernel)) ggX1_digestRoof_X0_tell
set_option maxRecDepth 20000 in
theorem ggX1_digestRoof_X0_high : GoodIn wsX1_digestRoof wsX0_high := goodIn_r _ [41, 8, 65, 66, 67, 68, 69, 70, 71, 72, 73, 74] (by decide +kernel) (by decide +kernel)
set_option maxRecDepth 20000 in
theorem gX1_digestRoof_X0_high : GoodIn wsX1_digestRoof (wsV RX1 186 RX0 yX0_high wsX0_high) := goodIn_app (goodIn_of _ (by decide +kernel)) ggX1_digestRoof_X0_high
set_option maxRecDepth 20000 in
theorem ggX1_digestRoof_X0_wide : GoodIn wsX1_digestRoof wsX0_wide := goodIn_r _ [45, 7, 65, 66, 67, 68, 69, 70, 71, 72, 73, 74] (by decide +kernel) (by decide +kernel)
set_option maxRecDepth 20000 in
theorem gX1_digestRoof_X0_wide : GoodIn wsX1_digestRoof (wsV RX1 102 RX0 yX0_wide wsX0_wide) := goodIn_app (goodIn_of _ (by decide +kernel)) ggX1_digestRoof_X0_wide
set_option maxRecDepth 20000 in
theorem ggX1_digestRoof_X0_tellYealm : GoodIn wsX1_digestRoof wsX0_tellYealm := goodIn_r _ [49, 50, 25, 51, 52, 17, 18, 19, 5, 20, 21, 22, 23, 24, 8, 7, 53, 54, 55, 56, 57, 58, 59, 60, 61, 62, 63, 64, 65, 66, 67, 68, 69, 70, 71, 72, 73, 74] (by decide +kernel) (by decide +kernel)
set_option maxRecDepth 20000 in
theorem gX1_digestRoof_X0_tellYealm : GoodIn wsX1_digestRoof (wsV RX1 130 RX0 yX0_tellYealm wsX0_tellYealm) := goodIn_app (goodIn_of _ (by decide +kernel)) ggX1_digestRoof_X0_tellYealm
theorem dX1_digestRoof_0 : decode cX1_digestRoof 0 = .ok (.lload_n 1, 1) := by decide +kernel
theorem dX1_digestRoof_1 : decode cX1_digestRoof 1 = .ok (.lstore_n 3, 1) := by decide +kernel
theorem dX1_digestRoof_2 : decode cX1_digestRoof 2 = .ok (.iconst 0, 1) := by decide +kernel
theorem dX1_digestRoof_3 : decode cX1_digestRoof 3 = .ok (.istore 5, 2) := by decide +kernel
theorem dX1_digestRoof_5 : decode cX1_digestRoof 5 = .ok (.iload 5, 2) := by decide +kernel
theorem dX1_digestRoof_7 : decode cX1_digestRoof 7 = .ok (.bipush 9, 2) := by decide +kernel
theorem dX1_digestRoof_9 : decode cX1_digestRoof 9 = .ok (.if_icmp .ge 23, 3) := by decide +kernel
theorem dX1_digestRoof_12 : decode cX1_digestRoof 12 = .ok (.lload_n 3, 1) := by decide +kernel
theorem dX1_digestRoof_13 : decode cX1_digestRoof 13 = .ok (.ldc2_w 199, 3) := by decide +kernel
theorem dX1_digestRoof_16 : decode cX1_digestRoof 16 = .ok (.lmul, 1) := by decide +kernel
theorem dX1_digestRoof_17 : decode cX1_digestRoof 17 = .ok (.aload_n 0, 1) := by decide +kernel
theorem dX1_digestRoof_18 : decode cX1_digestRoof 18 = .ok (.iload 5, 2) := by decide +kernel
theorem dX1_digestRoof_20 : decode cX1_digestRoof 20 = .ok (.invokevirtual 136, 3) := by decide +kernel
theorem dX1_digestRoof_23 : decode cX1_digestRoof 23 = .ok (.i2l, 1) := by decide +kernel
theorem dX1_digestRoof_24 : decode cX1_digestRoof 24 = .ok (.ladd, 1) := by decide +kernel
theorem dX1_digestRoof_25 : decode cX1_digestRoof 25 = .ok (.lstore_n 3, 1) := by decide +kernel
theorem dX1_digestRoof_26 : decode cX1_digestRoof 26 = .ok (.iinc 5 1, 3) := by decide +kernel
theorem dX1_digestRoof_29 : decode cX1_digestRoof 29 = .ok (.goto (-24), 3) := by decide +kernel
theorem dX1_digestRoof_32 : decode cX1_digestRoof 32 = .ok (.iconst 0, 1) := by decide +kernel
theorem dX1_digestRoof_33 : decode cX1_digestRoof 33 = .ok (.istore 5, 2) := by decide +kernel
theorem dX1_digestRoof_35 : decode cX1_digestRoof 35 = .ok (.iload 5, 2) := by decide +kernel
theorem dX1_digestRoof_37 : decode cX1_digestRoof 37 = .ok (.aload_n 0, 1) := by decide +kernel
theorem dX1_digestRoof_38 : decode cX1_digestRoof 38 = .ok (.invokevirtual 186, 3) := by decide +kernel
theorem dX1_digestRoof_41 : decode cX1_digestRoof 41 = .ok (.if_icmp .ge 61, 3) := by decide +kernel
theorem dX1_digestRoof_44 : decode cX1_digestRoof 44 = .ok (.iconst 0, 1) := by decide +kernel
theorem dX1_digestRoof_45 : decode cX1_digestRoof 45 = .ok (.istore 6, 2) := by decide +kernel
theorem dX1_digestRoof_47 : decode cX1_digestRoof 47 = .ok (.iload 6, 2) := by decide +kernel
theorem dX1_digestRoof_49 : decode cX1_digestRoof 49 = .ok (.aload_n 0, 1) := by decide +kernel
theorem dX1_digestRoof_50 : decode cX1_digestRoof 50 = .ok (.invokevirtual 102, 3) := by decide +kernel
theorem dX1_digestRoof_53 : decode cX1_digestRoof 53 = .ok (.if_icmp .ge 43, 3) := by decide +kernel
theorem dX1_digestRoof_56 : decode cX1_digestRoof 56 = .ok (.iconst 0, 1) := by decide +kernel
theorem dX1_digestRoof_57 : decode cX1_digestRoof 57 = .ok (.istore 7, 2) := by decide +kernel
theorem dX1_digestRoof_59 : decode cX1_digestRoof 59 = .ok (.iload 7, 2) := by decide +kernel
theorem dX1_digestRoof_61 : decode cX1_digestRoof 61 = .ok (.bipush 6, 2) := by decide +kernel
theorem dX1_digestRoof_63 : decode cX1_digestRoof 63 = .ok (.if_icmp .ge 27, 3) := by decide +kernel
theorem dX1_digestRoof_66 : decode cX1_digestRoof 66 = .ok (.lload_n 3, 1) := by decide +kernel
theorem dX1_digestRoof_67 : decode cX1_digestRoof 67 = .ok (.ldc2_w 199, 3) := by decide +kernel
theorem dX1_digestRoof_70 : decode cX1_digestRoof 70 = .ok (.lmul, 1) := by decide +kernel
theorem dX1_digestRoof_71 : decode cX1_digestRoof 71 = .ok (.aload_n 0, 1) := by decide +kernel
theorem dX1_digestRoof_72 : decode cX1_digestRoof 72 = .ok (.iload 5, 2) := by decide +kernel
theorem dX1_digestRoof_74 : decode cX1_digestRoof 74 = .ok (.iload 6, 2) := by decide +kernel
theorem dX1_digestRoof_76 : decode cX1_digestRoof 76 = .ok (.iload 7, 2) := by decide +kernel
theorem dX1_digestRoof_78 : decode cX1_digestRoof 78 = .ok (.invokevirtual 130, 3) := by decide +kernel
theorem dX1_digestRoof_81 : decode cX1_digestRoof 81 = .ok (.i2l, 1) := by decide +kernel
theorem dX1_digestRoof_82 : decode cX1_digestRoof 82 = .ok (.ladd, 1) := by decide +kernel
theorem dX1_digestRoof_83 : decode cX1_digestRoof 83 = .ok (.lstore_n 3, 1) := by decide +kernel
theorem dX1_digestRoof_84 : decode cX1_digestRoof 84 = .ok (.iinc 7 1, 3) := by decide +kernel
theorem dX1_digestRoof_87 : decode cX1_digestRoof 87 = .ok (.goto (-28), 3) := by decide +kernel
theorem dX1_digestRoof_90 : decode cX1_digestRoof 90 = .ok (.iinc 6 1, 3) := by decide +kernel
theorem dX1_digestRoof_93 : decode cX1_digestRoof 93 = .ok (.goto (-46), 3) := by decide +kernel
theorem dX1_digestRoof_96 : decode cX1_digestRoof 96 = .ok (.iinc 5 1, 3) := by decide +kernel
theorem dX1_digestRoof_99 : decode cX1_digestRoof 99 = .ok (.goto (-64), 3) := by decide +kernel
theorem dX1_digestRoof_102 : decode cX1_digestRoof 102 = .ok (.lload_n 3, 1) := by decide +kernel
theorem dX1_digestRoof_103 : decode cX1_digestRoof 103 = .ok (.lreturn, 1) := by decide +kernel
theorem dX1_isWithin_0 : decode cX1_isWithin 0 = .ok (.iload_n 0, 1) := by decide +kernel
theorem dX1_isWithin_1 : decode cX1_isWithin 1 = .ok (.iload_n 1, 1) := by decide +kernel
theorem dX1_isWithin_2 : decode cX1_isWithin 2 = .ok (.if_icmp .lt 12, 3) := by decide +kernel
theorem dX1_isWithin_5 : decode cX1_isWithin 5 = .ok (.iload_n 0, 1) := by decide +kernel
theorem dX1_isWithin_6 : decode cX1_isWithin 6 = .ok (.iload_n 2, 1) := by decide +kernel
theorem dX1_isWithin_7 : decode cX1_isWithin 7 = .ok (.if_icmp .gt 7, 3) := by decide +kernel
theorem dX1_isWithin_10 : decode cX1_isWithin 10 = .ok (.iconst 1, 1) := by decide +kernel
theorem dX1_isWithin_11 : decode cX1_isWithin 11 = .ok (.goto 4, 3) := by decide +kernel
theorem dX1_isWithin_15 : decode cX1_isWithin 15 = .ok (.ireturn, 1) := by decide +kernel
set_option maxRecDepth 20000 in
theorem ggX1_monthOfYear_J9_floorMod_7cf53 : GoodIn wsX1_monthOfYear wsJ9_floorMod_7cf53 := goodIn_r _ [5] (by decide +kernel) (by decide +kernel)
set_option maxRecDepth 20000 in
theorem gX1_monthOfYear_J9_floorMod_7cf53 : GoodIn wsX1_monthOfYear (va_wsS RX1 205 yJ9_floorMod_7cf53 wsJ9_floorMod_7cf53) := goodIn_app (goodIn_of _ (by decide +kernel)) ggX1_monthOfYear_J9_floorMod_7cf53
theorem dX1_monthOfYear_0 : decode cX1_monthOfYear 0 = .ok (.aload_n 0, 1) := by decide +kernel
theorem dX1_monthOfYear_1 : decode cX1_monthOfYear 1 = .ok (.getfield 155, 3) := by decide +kernel
theorem dX1_monthOfYear_4 : decode cX1_monthOfYear 4 = .ok (.iload_n 1, 1) := by decide +kernel
theorem dX1_monthOfYear_5 : decode cX1_monthOfYear 5 = .ok (.iadd, 1) := by decide +kernel
theorem dX1_monthOfYear_6 : decode cX1_monthOfYear 6 = .ok (.bipush 12, 2) := by decide +kernel
theorem dX1_monthOfYear_8 : decode cX1_monthOfYear 8 = .ok (.invokestatic 205, 3) := by decide +kernel
theorem dX1_monthOfYear_11 : decode cX1_monthOfYear 11 = .ok (.ireturn, 1) := by decide +kernel
set_option maxRecDepth 20000 in
theorem ggX1_rainAhead_X1_monthOfYear : GoodIn wsX1_rainAhead wsX1_monthOfYear := goodIn_r _ [6, 7, 8, 9, 10, 11, 12, 13, 14, 15, 16, 17, 18] (by decide +kernel) (by decide +kernel)
set_option maxRecDepth 20000 in
theorem gX1_rainAhead_X1_monthOfYear : GoodIn wsX1_rainAhead (wsV RX1 210 RX1 yX1_monthOfYear wsX1_monthOfYear) := goodIn_app (goodIn_of _ (by decide +kernel)) ggX1_rainAhead_X1_monthOfYear
theorem dX1_rainAhead_0 : decode cX1_rainAhead 0 = .ok (.aload_n 0, 1) := by decide +kernel
theorem dX1_rainAhead_1 : decode cX1_rainAhead 1 = .ok (.getfield 19, 3) := by decide +kernel
theorem dX1_rainAhead_4 : decode cX1_rainAhead 4 = .ok (.aload_n 0, 1) := by decide +kernel
theorem dX1_rainAhead_5 : decode cX1_rainAhead 5 = .ok (.iload_n 1, 1) := by decide +kernel
theorem dX1_rainAhead_6 : decode cX1_rainAhead 6 = .ok (.invokevirtual 210, 3) := by decide +kernel
theorem dX1_rainAhead_9 : decode cX1_rainAhead 9 = .ok (.iaload, 1) := by decide +kernel
theorem dX1_rainAhead_10 : decode cX1_rainAhead 10 = .ok (.ireturn, 1) := by decide +kernel
set_option maxRecDepth 20000 in
theorem ggX1_stormAhead_X1_monthOfYear : GoodIn wsX1_stormAhead wsX1_monthOfYear := goodIn_r _ [6, 7, 8, 9, 10, 11, 12, 13, 14, 15, 16, 17, 18] (by decide +kernel) (by decide +kernel)
set_option maxRecDepth 20000 in
theorem gX1_stormAhead_X1_monthOfYear : GoodIn wsX1_stormAhead (wsV RX1 210 RX1 yX1_monthOfYear wsX1_monthOfYear) := goodIn_app (goodIn_of _ (by decide +kernel)) ggX1_stormAhead_X1_monthOfYear
theorem dX1_stormAhead_0 : decode cX1_stormAhead 0 = .ok (.aload_n 0, 1) := by decide +kernel
theorem dX1_stormAhead_1 : decode cX1_stormAhead 1 = .ok (.getfield 22, 3) := by decide +kernel
theorem dX1_stormAhead_4 : decode cX1_stormAhead 4 = .ok (.aload_n 0, 1) := by decide +kernel
theorem dX1_stormAhead_5 : decode cX1_stormAhead 5 = .ok (.iload_n 1, 1) := by decide +kernel
theorem dX1_stormAhead_6 : decode cX1_stormAhead 6 = .ok (.invokevirtual 210, 3) := by decide +kernel
theorem dX1_stormAhead_9 : decode cX1_stormAhead 9 = .ok (.iaload, 1) := by decide +kernel
theorem dX1_stormAhead_10 : decode cX1_stormAhead 10 = .ok (.ireturn, 1) := by decide +kernel
set_option maxRecDepth 20000 in
theorem ggX1_tally_X1_tallyOfRoofs : GoodIn wsX1_tally wsX1_tallyOfRoofs := goodIn_r _ [8, 9, 10, 11, 12, 13, 14, 15, 16, 17, 18, 19, 20, 21, 22, 23, 24, 25, 26, 27, 28, 29, 30, 31, 32, 33, 34, 35, 36, 37, 38, 39, 40, 41, 42, 43, 44, 45, 64, 65, 66, 67, 68, 69, 70, 71, 72, 73, 74, 75, 76, 77, 78, 79, 80] (by decide +kernel) (by decide +kernel)
set_option maxRecDepth 20000 in
theorem gX1_tally_X1_tallyOfRoofs : GoodIn wsX1_tally (wsV RX1 213 RX1 yX1_tallyOfRoofs wsX1_tallyOfRoofs) := goodIn_app (goodIn_of _ (by decide +kernel)) ggX1_tally_X1_tallyOfRoofs
set_option maxRecDepth 20000 in
theorem ggX1_tally_X1_rainAhead : GoodIn wsX1_tally wsX1_rainAhead := goodIn_r _ [49, 50, 51, 52, 53, 7, 54, 1, 55, 56, 57, 58, 64, 65, 66, 67, 68, 69, 70] (by decide +kernel) (by decide +kernel)
set_option maxRecDepth 20000 in
theorem gX1_tally_X1_rainAhead : GoodIn wsX1_tally (wsV RX1 146 RX1 yX1_rainAhead wsX1_rainAhead) := goodIn_app (goodIn_of _ (by decide +kernel)) ggX1_tally_X1_rainAhead
set_option maxRecDepth 20000 in
theorem ggX1_tally_X1_stormAhead : GoodIn wsX1_tally wsX1_stormAhead := goodIn_r _ [62, 63, 51, 52, 53, 7, 54, 1, 55, 56, 57, 58, 64, 65, 66, 67, 68, 69, 70] (by decide +kernel) (by decide +kernel)
set_option maxRecDepth 20000 in
theorem gX1_tally_X1_stormAhead : GoodIn wsX1_tally (wsV RX1 149 RX1 yX1_stormAhead wsX1_stormAhead) := goodIn_app (goodIn_of _ (by decide +kernel)) ggX1_tally_X1_stormAhead
theorem dX1_tally_0 : decode cX1_tally 0 = .ok (.iload_n 1, 1) := by decide +kernel
theorem dX1_tally_1 : decode cX1_tally 1 = .ok (.tableswitch 85 0 7 #[47, 52, 57, 57, 57, 66, 72, 79], 47) := by decide +kernel
theorem dX1_tally_48 : decode cX1_tally 48 = .ok (.aload_n 0, 1) := by decide +kernel
theorem dX1_tally_49 : decode cX1_tally 49 = .ok (.getfield 155, 3) := by decide +kernel
theorem dX1_tally_52 : decode cX1_tally 52 = .ok (.ireturn, 1) := by decide +kernel
theorem dX1_tally_53 : decode cX1_tally 53 = .ok (.aload_n 0, 1) := by decide +kernel
theorem dX1_tally_54 : decode cX1_tally 54 = .ok (.getfield 43, 3) := by decide +kernel
theorem dX1_tally_57 : decode cX1_tally 57 = .ok (.ireturn, 1) := by decide +kernel
theorem dX1_tally_58 : decode cX1_tally 58 = .ok (.aload_n 0, 1) := by decide +kernel
theorem dX1_tally_59 : decode cX1_tally 59 = .ok (.getfield 15, 3) := by decide +kernel
theorem dX1_tally_62 : decode cX1_tally 62 = .ok (.iload_n 1, 1) := by decide +kernel
theorem dX1_tally_63 : decode cX1_tally 63 = .ok (.iconst 2, 1) := by decide +kernel
theorem dX1_tally_64 : decode cX1_tally 64 = .ok (.isub, 1) := by decide +kernel
theorem dX1_tally_65 : decode cX1_tally 65 = .ok (.iaload, 1) := by decide +kernel
theorem dX1_tally_66 : decode cX1_tally 66 = .ok (.ireturn, 1) := by decide +kernel
theorem dX1_tally_67 : decode cX1_tally 67 = .ok (.aload_n 0, 1) := by decide +kernel
theorem dX1_tally_68 : decode cX1_tally 68 = .ok (.iconst 4, 1) := by decide +kernel
theorem dX1_tally_69 : decode cX1_tally 69 = .ok (.invokevirtual 213, 3) := by decide +kernel
theorem dX1_tally_72 : decode cX1_tally 72 = .ok (.ireturn, 1) := by decide +kernel
theorem dX1_tally_73 : decode cX1_tally 73 = .ok (.aload_n 0, 1) := by decide +kernel
theorem dX1_tally_74 : decode cX1_tally 74 = .ok (.bipush 6, 2) := by decide +kernel
theorem dX1_tally_76 : decode cX1_tally 76 = .ok (.invokevirtual 213, 3) := by decide +kernel
theorem dX1_tally_79 : decode cX1_tally 79 = .ok (.ireturn, 1) := by decide +kernel
theorem dX1_tally_80 : decode cX1_tally 80 = .ok (.aload_n 0, 1) := by decide +kernel
theorem dX1_tally_81 : decode cX1_tally 81 = .ok (.iconst 0, 1) := by decide +kernel
theorem dX1_tally_82 : decode cX1_tally 82 = .ok (.invokevirtual 146, 3) := by decide +kernel
theorem dX1_tally_85 : decode cX1_tally 85 = .ok (.ireturn, 1) := by decide +kernel
theorem dX1_tally_86 : decode cX1_tally 86 = .ok (.aload_n 0, 1) := by decide +kernel
theorem dX1_tally_87 : decode cX1_tally 87 = .ok (.iconst 0, 1) := by decide +kernel
theorem dX1_tally_88 : decode cX1_tally 88 = .ok (.invokevirtual 149, 3) := by decide +kernel
theorem dX1_tally_91 : decode cX1_tally 91 = .ok (.ireturn, 1) := by decide +kernel
set_option maxRecDepth 20000 in
theorem ggX1_tallyOfRoofs_X0_tell : GoodIn wsX1_tallyOfRoofs wsX0_tell := goodIn_r _ [6, 7, 8, 9, 10, 11, 12, 13, 14, 15, 5, 16, 17, 18, 19, 20, 21, 22, 23, 24, 25, 26, 27, 28, 29, 30, 31, 32, 33, 34, 35, 36, 37, 45, 46, 47, 48, 49, 50, 51, 52, 53, 54] (by decide +kernel) (by decide +kernel)
set_option maxRecDepth 20000 in
theorem gX1_tallyOfRoofs_X0_tell : GoodIn wsX1_tallyOfRoofs (wsV RX1 136 RX0 yX0_tell wsX0_tell) := goodIn_app (goodIn_of _ (by decide +kernel)) ggX1_tallyOfRoofs_X0_tell
theorem dX1_tallyOfRoofs_0 : decode cX1_tallyOfRoofs 0 = .ok (.iconst 0, 1) := by decide +kernel
theorem dX1_tallyOfRoofs_1 : decode cX1_tallyOfRoofs 1 = .ok (.istore_n 2, 1) := by decide +kernel
theorem dX1_tallyOfRoofs_2 : decode cX1_tallyOfRoofs 2 = .ok (.iconst 0, 1) := by decide +kernel
theorem dX1_tallyOfRoofs_3 : decode cX1_tallyOfRoofs 3 = .ok (.istore_n 3, 1) := by decide +kernel
theorem dX1_tallyOfRoofs_4 : decode cX1_tallyOfRoofs 4 = .ok (.iload_n 3, 1) := by decide +kernel
theorem dX1_tallyOfRoofs_5 : decode cX1_tallyOfRoofs 5 = .ok (.bipush 6, 2) := by decide +kernel
theorem dX1_tallyOfRoofs_7 : decode cX1_tallyOfRoofs 7 = .ok (.if_icmp .ge 31, 3) := by decide +kernel
theorem dX1_tallyOfRoofs_10 : decode cX1_tallyOfRoofs 10 = .ok (.aload_n 0, 1) := by decide +kernel
theorem dX1_tallyOfRoofs_11 : decode cX1_tallyOfRoofs 11 = .ok (.getfield 11, 3) := by decide +kernel
theorem dX1_tallyOfRoofs_14 : decode cX1_tallyOfRoofs 14 = .ok (.iload_n 3, 1) := by decide +kernel
theorem dX1_tallyOfRoofs_15 : decode cX1_tallyOfRoofs 15 = .ok (.aaload, 1) := by decide +kernel
theorem dX1_tallyOfRoofs_16 : decode cX1_tallyOfRoofs 16 = .ok (.astore 4, 2) := by decide +kernel
theorem dX1_tallyOfRoofs_18 : decode cX1_tallyOfRoofs 18 = .ok (.aload 4, 2) := by decide +kernel
theorem dX1_tallyOfRoofs_20 : decode cX1_tallyOfRoofs 20 = .ok (.ifnull 12, 3) := by decide +kernel
theorem dX1_tallyOfRoofs_23 : decode cX1_tallyOfRoofs 23 = .ok (.iload_n 2, 1) := by decide +kernel
theorem dX1_tallyOfRoofs_24 : decode cX1_tallyOfRoofs 24 = .ok (.aload 4, 2) := by decide +kernel
theorem dX1_tallyOfRoofs_26 : decode cX1_tallyOfRoofs 26 = .ok (.iload_n 1, 1) := by decide +kernel
theorem dX1_tallyOfRoofs_27 : decode cX1_tallyOfRoofs 27 = .ok (.invokevirtual 136, 3) := by decide +kernel
theorem dX1_tallyOfRoofs_30 : decode cX1_tallyOfRoofs 30 = .ok (.iadd, 1) := by decide +kernel
theorem dX1_tallyOfRoofs_31 : decode cX1_tallyOfRoofs 31 = .ok (.istore_n 2, 1) := by decide +kernel
theorem dX1_tallyOfRoofs_32 : decode cX1_tallyOfRoofs 32 = .ok (.iinc 3 1, 3) := by decide +kernel
theorem dX1_tallyOfRoofs_35 : decode cX1_tallyOfRoofs 35 = .ok (.goto (-31), 3) := by decide +kernel
theorem dX1_tallyOfRoofs_38 : decode cX1_tallyOfRoofs 38 = .ok (.iload_n 2, 1) := by decide +kernel
theorem dX1_tallyOfRoofs_39 : decode cX1_tallyOfRoofs 39 = .ok (.ireturn, 1) := by decide +kernel
end

section
theorem dJ9_floorMod_7cf53_0 : decode cJ9_floorMod_7cf53 0 = .ok (.iload_n 0, 1) := by decide +kernel
theorem dJ9_floorMod_7cf53_1 : decode cJ9_floorMod_7cf53 1 = .ok (.iload_n 1, 1) := by decide +kernel
theorem dJ9_floorMod_7cf53_2 : decode cJ9_floorMod_7cf53 2 = .ok (.irem, 1) := by decide +kernel
theorem dJ9_floorMod_7cf53_3 : decode cJ9_floorMod_7cf53 3 = .ok (.istore_n 2, 1) := by decide +kernel
theorem dJ9_floorMod_7cf53_4 : decode cJ9_floorMod_7cf53 4 = .ok (.iload_n 0, 1) := by decide +kernel
theorem dJ9_floorMod_7cf53_5 : decode cJ9_floorMod_7cf53 5 = .ok (.iload_n 1, 1) := by decide +kernel
theorem dJ9_floorMod_7cf53_6 : decode cJ9_floorMod_7cf53 6 = .ok (.ixor, 1) := by decide +kernel
theorem dJ9_floorMod_7cf53_7 : decode cJ9_floorMod_7cf53 7 = .ok (.ifCond .ge 11, 3) := by decide +kernel
theorem dJ9_floorMod_7cf53_18 : decode cJ9_floorMod_7cf53 18 = .ok (.iload_n 2, 1) := by decide +kernel
theorem dJ9_floorMod_7cf53_19 : decode cJ9_floorMod_7cf53 19 = .ok (.ireturn, 1) := by decide +kernel
set_option maxRecDepth 20000 in
theorem ggL_build_X1_build : GoodIn wsL_build wsX1_build := goodIn_ca (goodIn_ca (goodIn_r _ [7, 8, 9, 10, 11, 12, 13, 14, 15, 16, 17, 18, 6, 19, 20, 21, 22, 23, 24, 25, 26, 27, 28, 29, 30, 31, 32, 33, 34, 35, 36, 37, 38, 39, 40, 41, 42, 43, 44, 45, 46, 47, 48, 49, 50, 51] (by decide +kernel) (by decide +kernel)) (goodIn_sub (fun _ h => List.mem_cons_of_mem _ (List.mem_append_left _ (List.mem_append_right _ h))) (by decide +kernel))) (goodIn_sub (fun _ h => List.mem_cons_of_mem _ (List.mem_append_right _ h)) (by decide +kernel))
set_option maxRecDepth 20000 in
theorem gL_build_X1_build : GoodIn wsL_build (wsV RL 7 RX1 yX1_build wsX1_build) := goodIn_app (goodIn_of _ (by decide +kernel)) ggL_build_X1_build
theorem dL_build_0 : decode cL_build 0 = .ok (.aload 4, 2) := by decide +kernel
theorem dL_build_2 : decode cL_build 2 = .ok (.iconst 0, 1) := by decide +kernel
theorem dL_build_3 : decode cL_build 3 = .ok (.aload_n 0, 1) := by decide +kernel
theorem dL_build_4 : decode cL_build 4 = .ok (.iload_n 1, 1) := by decide +kernel
theorem dL_build_5 : decode cL_build 5 = .ok (.iload_n 2, 1) := by decide +kernel
theorem dL_build_6 : decode cL_build 6 = .ok (.iload_n 3, 1) := by decide +kernel
theorem dL_build_7 : decode cL_build 7 = .ok (.invokevirtual 7, 3) := by decide +kernel
theorem dL_build_10 : decode cL_build 10 = .ok (.i2l, 1) := by decide +kernel
theorem dL_build_11 : decode cL_build 11 = .ok (.lastore, 1) := by decide +kernel
theorem dL_build_12 : decode cL_build 12 = .ok (.goto 11, 3) := by decide +kernel
theorem dL_build_23 : decode cL_build 23 = .ok (.iconst 0, 1) := by decide +kernel
theorem dL_build_24 : decode cL_build 24 = .ok (.ireturn, 1) := by decide +kernel
end

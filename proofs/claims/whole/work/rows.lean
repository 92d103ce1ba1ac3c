section
-- ===== PART A: goes FIRST, ahead of the names: the tables' words, and 'selects' of the private methods out of them =====
/-- a private method of a class that the tables say can be made, by its rows of tables_1 -/
def lw_okq (q : MethodName × Nat) : Prop := (q.1.cls ≠ "java/lang/invoke/MethodHandle" ∧ q.1.cls ≠ "java/lang/invoke/VarHandle") ∧ Cond.instantiable q.1.cls q.2 ∈ tables_1 ∧ Cond.privateMethod q.1 ∈ tables_1 ∧ Cond.instanceMethod q.1 ∈ tables_1
theorem lw_p0 : lw_okq (⟨"ThatchRoof$Roof", "thicknessOver", "(I)I"⟩, 10) := ⟨⟨by decide +kernel, by decide +kernel⟩, List.mem_of_getElem? (i := 23) (by decide +kernel), List.mem_of_getElem? (i := 103) (by decide +kernel), List.mem_of_getElem? (i := 104) (by decide +kernel)⟩
theorem lw_p1 : lw_okq (⟨"ThatchRoof", "tally", "(I)I"⟩, 7) := ⟨⟨by decide +kernel, by decide +kernel⟩, List.mem_of_getElem? (i := 14) (by decide +kernel), List.mem_of_getElem? (i := 113) (by decide +kernel), List.mem_of_getElem? (i := 114) (by decide +kernel)⟩
theorem lw_p2 : lw_okq (⟨"ThatchRoof", "tallyOfRoofs", "(I)I"⟩, 7) := ⟨⟨by decide +kernel, by decide +kernel⟩, List.mem_of_getElem? (i := 14) (by decide +kernel), List.mem_of_getElem? (i := 117) (by decide +kernel), List.mem_of_getElem? (i := 118) (by decide +kernel)⟩
theorem lw_p3 : lw_okq (⟨"ThatchRoof", "rainAhead", "(I)I"⟩, 7) := ⟨⟨by decide +kernel, by decide +kernel⟩, List.mem_of_getElem? (i := 14) (by decide +kernel), List.mem_of_getElem? (i := 131) (by decide +kernel), List.mem_of_getElem? (i := 132) (by decide +kernel)⟩
theorem lw_p4 : lw_okq (⟨"ThatchRoof", "monthOfYear", "(I)I"⟩, 7) := ⟨⟨by decide +kernel, by decide +kernel⟩, List.mem_of_getElem? (i := 14) (by decide +kernel), List.mem_of_getElem? (i := 135) (by decide +kernel), List.mem_of_getElem? (i := 136) (by decide +kernel)⟩
theorem lw_p5 : lw_okq (⟨"ThatchRoof", "stormAhead", "(I)I"⟩, 7) := ⟨⟨by decide +kernel, by decide +kernel⟩, List.mem_of_getElem? (i := 14) (by decide +kernel), List.mem_of_getElem? (i := 142) (by decide +kernel), List.mem_of_getElem? (i := 143) (by decide +kernel)⟩
theorem lw_p6 : lw_okq (⟨"ThatchRoof$Roof", "isBare", "(II)Z"⟩, 10) := ⟨⟨by decide +kernel, by decide +kernel⟩, List.mem_of_getElem? (i := 23) (by decide +kernel), List.mem_of_getElem? (i := 165) (by decide +kernel), List.mem_of_getElem? (i := 166) (by decide +kernel)⟩
theorem lw_p7 : lw_okq (⟨"ThatchRoof$Roof", "isHighest", "(I)Z"⟩, 10) := ⟨⟨by decide +kernel, by decide +kernel⟩, List.mem_of_getElem? (i := 23) (by decide +kernel), List.mem_of_getElem? (i := 169) (by decide +kernel), List.mem_of_getElem? (i := 170) (by decide +kernel)⟩
theorem lw_p8 : lw_okq (⟨"java/lang/Throwable", "fillInStackTrace", "(I)Ljava/lang/Throwable;"⟩, 6) := ⟨⟨by decide +kernel, by decide +kernel⟩, List.mem_of_getElem? (i := 223) (by decide +kernel), List.mem_of_getElem? (i := 221) (by decide +kernel), List.mem_of_getElem? (i := 222) (by decide +kernel)⟩
theorem lw_p9 : lw_okq (⟨"ThatchRoof", "roofAt", "(I)LThatchRoof$Roof;"⟩, 7) := ⟨⟨by decide +kernel, by decide +kernel⟩, List.mem_of_getElem? (i := 14) (by decide +kernel), List.mem_of_getElem? (i := 314) (by decide +kernel), List.mem_of_getElem? (i := 315) (by decide +kernel)⟩
theorem lw_p10 : lw_okq (⟨"ThatchRoof$Roof", "rainOn", "(II)I"⟩, 10) := ⟨⟨by decide +kernel, by decide +kernel⟩, List.mem_of_getElem? (i := 23) (by decide +kernel), List.mem_of_getElem? (i := 427) (by decide +kernel), List.mem_of_getElem? (i := 428) (by decide +kernel)⟩
theorem lw_p11 : lw_okq (⟨"ThatchRoof$Roof", "wearBy", "(III)I"⟩, 10) := ⟨⟨by decide +kernel, by decide +kernel⟩, List.mem_of_getElem? (i := 23) (by decide +kernel), List.mem_of_getElem? (i := 431) (by decide +kernel), List.mem_of_getElem? (i := 432) (by decide +kernel)⟩
theorem lw_p12 : lw_okq (⟨"ThatchRoof$Roof", "growMoss", "(II)V"⟩, 10) := ⟨⟨by decide +kernel, by decide +kernel⟩, List.mem_of_getElem? (i := 23) (by decide +kernel), List.mem_of_getElem? (i := 438) (by decide +kernel), List.mem_of_getElem? (i := 439) (by decide +kernel)⟩
theorem lw_p13 : lw_okq (⟨"ThatchRoof$Roof", "stormOn", "(II)I"⟩, 10) := ⟨⟨by decide +kernel, by decide +kernel⟩, List.mem_of_getElem? (i := 23) (by decide +kernel), List.mem_of_getElem? (i := 442) (by decide +kernel), List.mem_of_getElem? (i := 443) (by decide +kernel)⟩
theorem lw_p14 : lw_okq (⟨"ThatchRoof$Roof", "wouldTear", "(III)Z"⟩, 10) := ⟨⟨by decide +kernel, by decide +kernel⟩, List.mem_of_getElem? (i := 23) (by decide +kernel), List.mem_of_getElem? (i := 446) (by decide +kernel), List.mem_of_getElem? (i := 447) (by decide +kernel)⟩
theorem lw_p15 : lw_okq (⟨"ThatchRoof$Roof", "isEnd", "(I)Z"⟩, 10) := ⟨⟨by decide +kernel, by decide +kernel⟩, List.mem_of_getElem? (i := 23) (by decide +kernel), List.mem_of_getElem? (i := 450) (by decide +kernel), List.mem_of_getElem? (i := 451) (by decide +kernel)⟩
def lw_privs_1 : List (MethodName × Nat) := [(⟨"ThatchRoof$Roof", "thicknessOver", "(I)I"⟩, 10), (⟨"ThatchRoof", "tally", "(I)I"⟩, 7), (⟨"ThatchRoof", "tallyOfRoofs", "(I)I"⟩, 7), (⟨"ThatchRoof", "rainAhead", "(I)I"⟩, 7), (⟨"ThatchRoof", "monthOfYear", "(I)I"⟩, 7), (⟨"ThatchRoof", "stormAhead", "(I)I"⟩, 7), (⟨"ThatchRoof$Roof", "isBare", "(II)Z"⟩, 10), (⟨"ThatchRoof$Roof", "isHighest", "(I)Z"⟩, 10), (⟨"java/lang/Throwable", "fillInStackTrace", "(I)Ljava/lang/Throwable;"⟩, 6), (⟨"ThatchRoof", "roofAt", "(I)LThatchRoof$Roof;"⟩, 7), (⟨"ThatchRoof$Roof", "rainOn", "(II)I"⟩, 10), (⟨"ThatchRoof$Roof", "wearBy", "(III)I"⟩, 10), (⟨"ThatchRoof$Roof", "growMoss", "(II)V"⟩, 10), (⟨"ThatchRoof$Roof", "stormOn", "(II)I"⟩, 10), (⟨"ThatchRoof$Roof", "wouldTear", "(III)Z"⟩, 10), (⟨"ThatchRoof$Roof", "isEnd", "(I)Z"⟩, 10)]
theorem lw_r1 : ∀ q ∈ lw_privs_1, lw_okq q := List.forall_mem_cons.mpr ⟨lw_p0, List.forall_mem_cons.mpr ⟨lw_p1, List.forall_mem_cons.mpr ⟨lw_p2, List.forall_mem_cons.mpr ⟨lw_p3, List.forall_mem_cons.mpr ⟨lw_p4, List.forall_mem_cons.mpr ⟨lw_p5, List.forall_mem_cons.mpr ⟨lw_p6, List.forall_mem_cons.mpr ⟨lw_p7, List.forall_mem_cons.mpr ⟨lw_p8, List.forall_mem_cons.mpr ⟨lw_p9, List.forall_mem_cons.mpr ⟨lw_p10, List.forall_mem_cons.mpr ⟨lw_p11, List.forall_mem_cons.mpr ⟨lw_p12, List.forall_mem_cons.mpr ⟨lw_p13, List.forall_mem_cons.mpr ⟨lw_p14, List.forall_mem_cons.mpr ⟨lw_p15, fun _ h => absurd h List.not_mem_nil⟩⟩⟩⟩⟩⟩⟩⟩⟩⟩⟩⟩⟩⟩⟩⟩
theorem lw_p16 : lw_okq (⟨"ThatchRoof", "lostAt", "(LThatchRoof$Roof;III)I"⟩, 7) := ⟨⟨by decide +kernel, by decide +kernel⟩, List.mem_of_getElem? (i := 14) (by decide +kernel), List.mem_of_getElem? (i := 506) (by decide +kernel), List.mem_of_getElem? (i := 507) (by decide +kernel)⟩
theorem lw_p17 : lw_okq (⟨"ThatchRoofModel", "no", "(I)I"⟩, 10) := ⟨⟨by decide +kernel, by decide +kernel⟩, List.mem_of_getElem? (i := 521) (by decide +kernel), List.mem_of_getElem? (i := 620) (by decide +kernel), List.mem_of_getElem? (i := 621) (by decide +kernel)⟩
theorem lw_p18 : lw_okq (⟨"ThatchRoofModel", "isPlace", "(III)Z"⟩, 10) := ⟨⟨by decide +kernel, by decide +kernel⟩, List.mem_of_getElem? (i := 521) (by decide +kernel), List.mem_of_getElem? (i := 636) (by decide +kernel), List.mem_of_getElem? (i := 637) (by decide +kernel)⟩
theorem lw_p19 : lw_okq (⟨"ThatchRoofModel", "isCourse", "(II)Z"⟩, 10) := ⟨⟨by decide +kernel, by decide +kernel⟩, List.mem_of_getElem? (i := 521) (by decide +kernel), List.mem_of_getElem? (i := 640) (by decide +kernel), List.mem_of_getElem? (i := 641) (by decide +kernel)⟩
theorem lw_p20 : lw_okq (⟨"ThatchRoofModel", "isRoof", "(I)Z"⟩, 10) := ⟨⟨by decide +kernel, by decide +kernel⟩, List.mem_of_getElem? (i := 521) (by decide +kernel), List.mem_of_getElem? (i := 644) (by decide +kernel), List.mem_of_getElem? (i := 645) (by decide +kernel)⟩
theorem lw_p21 : lw_okq (⟨"ThatchRoofModel", "isFree", "(III)Z"⟩, 10) := ⟨⟨by decide +kernel, by decide +kernel⟩, List.mem_of_getElem? (i := 521) (by decide +kernel), List.mem_of_getElem? (i := 648) (by decide +kernel), List.mem_of_getElem? (i := 649) (by decide +kernel)⟩
theorem lw_p22 : lw_okq (⟨"ThatchRoofModel", "yealmTold", "(IIII)I"⟩, 10) := ⟨⟨by decide +kernel, by decide +kernel⟩, List.mem_of_getElem? (i := 521) (by decide +kernel), List.mem_of_getElem? (i := 688) (by decide +kernel), List.mem_of_getElem? (i := 689) (by decide +kernel)⟩
theorem lw_p23 : lw_okq (⟨"ThatchRoofModel", "roofTold", "(II)I"⟩, 10) := ⟨⟨by decide +kernel, by decide +kernel⟩, List.mem_of_getElem? (i := 521) (by decide +kernel), List.mem_of_getElem? (i := 701) (by decide +kernel), List.mem_of_getElem? (i := 702) (by decide +kernel)⟩
theorem lw_p24 : lw_okq (⟨"ThatchRoofModel", "counted", "(I)I"⟩, 10) := ⟨⟨by decide +kernel, by decide +kernel⟩, List.mem_of_getElem? (i := 521) (by decide +kernel), List.mem_of_getElem? (i := 721) (by decide +kernel), List.mem_of_getElem? (i := 722) (by decide +kernel)⟩
theorem lw_p25 : lw_okq (⟨"ThatchRoofModel$State", "thinned", "(IIII)I"⟩, 10) := ⟨⟨by decide +kernel, by decide +kernel⟩, List.mem_of_getElem? (i := 527) (by decide +kernel), List.mem_of_getElem? (i := 733) (by decide +kernel), List.mem_of_getElem? (i := 734) (by decide +kernel)⟩
theorem lw_p26 : lw_okq (⟨"ThatchRoofModel$State", "clear", "(I)I"⟩, 10) := ⟨⟨by decide +kernel, by decide +kernel⟩, List.mem_of_getElem? (i := 527) (by decide +kernel), List.mem_of_getElem? (i := 738) (by decide +kernel), List.mem_of_getElem? (i := 739) (by decide +kernel)⟩
theorem lw_p27 : lw_okq (⟨"ThatchRoofModel$State", "copy", "([I[I)V"⟩, 10) := ⟨⟨by decide +kernel, by decide +kernel⟩, List.mem_of_getElem? (i := 527) (by decide +kernel), List.mem_of_getElem? (i := 761) (by decide +kernel), List.mem_of_getElem? (i := 762) (by decide +kernel)⟩
theorem lw_p28 : lw_okq (⟨"ThatchRoofModel", "left", "(III)I"⟩, 10) := ⟨⟨by decide +kernel, by decide +kernel⟩, List.mem_of_getElem? (i := 521) (by decide +kernel), List.mem_of_getElem? (i := 774) (by decide +kernel), List.mem_of_getElem? (i := 775) (by decide +kernel)⟩
def lw_privs_2 : List (MethodName × Nat) := [(⟨"ThatchRoof", "lostAt", "(LThatchRoof$Roof;III)I"⟩, 7), (⟨"ThatchRoofModel", "no", "(I)I"⟩, 10), (⟨"ThatchRoofModel", "isPlace", "(III)Z"⟩, 10), (⟨"ThatchRoofModel", "isCourse", "(II)Z"⟩, 10), (⟨"ThatchRoofModel", "isRoof", "(I)Z"⟩, 10), (⟨"ThatchRoofModel", "isFree", "(III)Z"⟩, 10), (⟨"ThatchRoofModel", "yealmTold", "(IIII)I"⟩, 10), (⟨"ThatchRoofModel", "roofTold", "(II)I"⟩, 10), (⟨"ThatchRoofModel", "counted", "(I)I"⟩, 10), (⟨"ThatchRoofModel$State", "thinned", "(IIII)I"⟩, 10), (⟨"ThatchRoofModel$State", "clear", "(I)I"⟩, 10), (⟨"ThatchRoofModel$State", "copy", "([I[I)V"⟩, 10), (⟨"ThatchRoofModel", "left", "(III)I"⟩, 10)]
theorem lw_r2 : ∀ q ∈ lw_privs_2, lw_okq q := List.forall_mem_cons.mpr ⟨lw_p16, List.forall_mem_cons.mpr ⟨lw_p17, List.forall_mem_cons.mpr ⟨lw_p18, List.forall_mem_cons.mpr ⟨lw_p19, List.forall_mem_cons.mpr ⟨lw_p20, List.forall_mem_cons.mpr ⟨lw_p21, List.forall_mem_cons.mpr ⟨lw_p22, List.forall_mem_cons.mpr ⟨lw_p23, List.forall_mem_cons.mpr ⟨lw_p24, List.forall_mem_cons.mpr ⟨lw_p25, List.forall_mem_cons.mpr ⟨lw_p26, List.forall_mem_cons.mpr ⟨lw_p27, List.forall_mem_cons.mpr ⟨lw_p28, fun _ h => absurd h List.not_mem_nil⟩⟩⟩⟩⟩⟩⟩⟩⟩⟩⟩⟩⟩
def lw_privs : List (MethodName × Nat) := lw_privs_1 ++ (lw_privs_2)
def lw_tbl : List Cond := k2_sels lw_privs ++ tables_1
theorem lw_privs_ok : ∀ q ∈ lw_privs, lw_okq q := by
  show ∀ q ∈ lw_privs_1 ++ (lw_privs_2), lw_okq q
  exact List.forall_mem_append.mpr ⟨lw_r1, lw_r2⟩
/-- the streams that the claim lets the run draw from -/
abbrev lw_cs : List Choice := [Jvm.Choice.named "NaN.bits"]
theorem lw_bits : nanBits ∈ lw_cs := by first | decide | exact List.mem_cons_self | simp [lw_cs, nanBits]
end
section
/-! ===== BEGIN words of one list among another's, by their places ===== -/
theorem goodIn_r {big : List Cond} (ws : List Cond) (ps : List Nat) (hp : ws = ps.filterMap (fun i => big[i]?)) (h : ws.all goodWord = true) : GoodIn big ws := by
  intro w hw
  have h1 := List.all_eq_true.mp h w hw
  rw [hp] at hw
  obtain ⟨i, -, hi⟩ := List.mem_filterMap.mp hw
  have hm : w ∈ big := by first | exact List.mem_of_getElem? hi | exact List.getElem?_mem hi
  exact ⟨hm, good_of_word h1⟩
theorem goodIn_app {big a b : List Cond} (ha : GoodIn big a) (hb : GoodIn big b) : GoodIn big (a ++ b) := fun w h => (List.mem_append.mp h).elim (ha w) (hb w)
theorem goodIn_ca {big a b : List Cond} {c : Cond} (ha : GoodIn big (c :: a)) (hb : GoodIn big b) : GoodIn big (c :: (a ++ b)) := fun w h => (List.mem_cons.mp h).elim (fun e => ha w (List.mem_cons.mpr (Or.inl e))) (fun h => (List.mem_append.mp h).elim (fun h => ha w (List.mem_cons.mpr (Or.inr h))) (hb w))
theorem goodIn_sub {big ws : List Cond} (hm : ∀ w ∈ ws, w ∈ big) (h : ws.all goodWord = true) : GoodIn big ws := fun w hw => ⟨hm w hw, good_of_word (List.all_eq_true.mp h w hw)⟩
/-! ===== END ===== -/

/-! ===== BEGIN exceptions that leave a method, and their catching by the caller (launches without stack traces) ===== -/
section VXA
/-! The laws vx_back, vx_callV, vx_callS, vx_callSW, vx_throw0, vx_throwS follow proofs of the library, with one case more: JvmDerived/Free/Laws.lean (Back.of_free), Shelf42/LK1.lean (callV, callS), Shelf/KitTraced.lean (throwNew0V, throwNewS). -/
/-- where a method has thrown q: the class by its name, the cell, what was written, the world -/
def vx_T (XC : String → State → State → Prop) (st : State) (q : Addr) (t : State) (mc ms : Nat) (free : Addr → Prop) : Prop :=
  ∃ (E : String) (ce : Cell) (L : List Loc), XC E st t ∧ t.heap[q]? = some ce ∧ ce.vm = .none ∧ st.vm.findClass E = some ce.cls ∧ st.WarmedH t.vm ∧ st.sameButNew ({ t with vm := st.vm } : State) L mc ms ∧ ∀ z ∈ L, free z.base
def vx_Q (Qc : Array Value → State → Outcome → State → Prop) (XC : String → State → State → Prop) (mc ms : Nat) (free : Addr → Prop) : Array Value → State → Outcome → State → Prop := fun a st o t =>
  (Qc a st o t ∧ ∃ L, FrameEnd st o t L mc ms ∧ ∀ q ∈ L, free q.base) ∨ ∃ q, o = .threw q ∧ vx_T XC st q t mc ms free
/-- a callee that returns or throws -/
def vx_Met (l : Launch) (y : MethodName) (ws : List Cond) (rm : Room) (Pc : Array Value → State → Prop) (Qc : Array Value → State → Outcome → State → Prop) (XC : String → State → State → Prop) (mc ms : Nat) (free : Addr → Prop) : Prop :=
  MetFree l y (headSpec ws rm) Pc (fun _ _ _ _ _ => True) (vx_Q Qc XC mc ms free)
def vx_Post (XC : String → State → State → Prop) (mc ms : Nat) (free : Addr → Prop) : Pt → Array Value → Addr → Pt → Prop := fun A a q B =>
  ∃ (g : JFrame) (mk : MethodId) (t : State) (L : List Loc) (E : String) (ce : Cell), B.U.heap = t.heap ∧ B.U.vm = t.vm ∧ XC E (A.U.calling g mk a) t ∧ t.heap[q]? = some ce ∧ ce.vm = .none ∧ A.U.vm.findClass E = some ce.cls ∧ B.locs = A.locs ++ L ∧ (∀ z ∈ L, free z.base) ∧ B.cells = A.cells + mc ∧ B.slots = A.slots + ms
def vx_Back (l : Launch) (R : Room) (p : Program) (e : Env) (below : List Frame) (s : State) (sargs : Array Value) (y : MethodName) (len W9 : Nat)
    (Pre : Pt → Array Value → Prop) (Post : Pt → Array Value → Option Value → Pt → Prop) (PostX : Pt → Array Value → Addr → Pt → Prop) : Prop :=
  ∀ (m : MethodId) (meth : Method) (c : Code) (A : Pt) (g : JFrame) (ig : Instr) (mk : MethodId) (a : Array Value),
    Stand p l e R s m sargs below meth c A.U A.locs A.cells A.slots → g.method = m → g.locals.size = c.maxLocals → decode c.code g.pc = .ok (ig, len) →
    2 * g.monitorRoom + (g.stack.map fun v => v.category).sum ≤ W9 → A.U.methodNamed? y = some mk → Pre A a →
    (∃ (v : Option Value) (B : Pt), Stand p l e R s m sargs below meth c B.U B.locs B.cells B.slots ∧ Post A a v B ∧
      Steps p.tables e below (doInvoke e (A.U.setTop g) [] mk a).1 (B.U.setTop { g with pc := g.pc + len, stack := v.toList ++ g.stack })) ∨
    (∃ (q : Addr) (B : Pt), Stand p l e R s m sargs below meth c B.U B.locs B.cells B.slots ∧ PostX A a q B ∧
      Steps p.tables e below (doInvoke e (A.U.setTop g) [] mk a).1 ((B.U.setTop g).pushFrame (.throwing q)))
section Payer
variable {l : Launch} {R : Room} {p : Program} {e : Env} {below : List Frame} {s : State} {sargs : Array Value} {y : MethodName} {len W9 : Nat}
theorem vx_back {ws : List Cond} {rm : Room} {Pc : Array Value → State → Prop} {Qc : Array Value → State → Outcome → State → Prop} {XC : String → State → State → Prop} {mc ms : Nat} {free : Addr → Prop} {bytes : ByteArray} {maxL : Nat} {ret : Option FieldType}
    (hM : vx_Met l y ws rm Pc Qc XC mc ms free) (hblind : FrameBlind Pc) (hrc : rm.cells = mc) (hrs : rm.slots = ms)
    (hframes : rm.frames + 1 ≤ R.frames) (hlocals : W9 + (maxL + 11) + rm.locals ≤ R.locals)
    (hws : ∀ w ∈ ws, ∀ a' U, s.WarmedH U.vm → w.before a' U = true) (hcode : Cond.code y bytes maxL ret ∈ ws) (hinit : ∀ a' U, s.WarmedH U.vm → (Cond.initialized y.cls).before a' U = true) :
    vx_Back l R p e below s sargs y len W9 (PreOf R mc ms Pc) (PostOf Qc mc ms free) (vx_Post XC mc ms free) := by
  intro m meth c A g ig mk a X hg hsize hdg hW hn hp
  have h1 : (headSpec ws rm).pre.before a A.U = true := atoms_intro fun w hw => hws w hw _ _ X.warmed
  have h2 : (Cond.code y bytes maxL ret).before a A.U = true := hws _ hcode _ _ X.warmed
  have h3 : (Cond.initialized y.cls).before a A.U = true := hinit _ _ X.warmed
  have h4 : A.cells + (headSpec ws rm).room.cells ≤ R.cells := by rw [show (headSpec ws rm).room.cells = mc from hrc]; exact hp.1
  have h5 : A.slots + (headSpec ws rm).room.slots ≤ R.slots := by rw [show (headSpec ws rm).room.slots = ms from hrs]; exact hp.2.1
  have hPc : Pc a (A.U.calling g mk a) := hblind _ _ _ _ hp.2.2
  obtain ⟨U, Ls, c0, s0⟩ := A
  dsimp only [Pt.U, Pt.locs, Pt.cells, Pt.slots] at h1 h2 h3 h4 h5 X hn hPc ⊢
  obtain ⟨methY, cY, hmY, hcY, -, hlY, -, -, -, -⟩ := Cond.code_spec hn h2
  obtain ⟨kY, hkY, -⟩ := className_of_methodNamed hn
  have hinitY : kY.init = .initialized := Cond.initialized_spec (findClass_of_methodNamed hn) hkY h3
  have h : At U g.method c below := by rw [hg]; exact X.here
  have hlocals9 : W9 + (maxL + 11) + (headSpec ws rm).room.locals ≤ R.locals := hlocals
  have happ : (headSpec ws rm).appliesLoose y e.platform (U.calling g mk a) = true :=
    Spec.appliesLoose_calling (g := g) h hdg hn hkY hinitY
      (X.room_calling (g := g) (R' := (headSpec ws rm).room) hsize hmY hcY hframes (by rw [hlY]; omega) h4 h5) h1
  obtain ⟨mid, hmid⟩ := h.above
  have hfr : (U.setTop g).frames = (.java g :: mid) ++ below := by rw [State.frames_setTop' g h.top, hmid]; rfl
  obtain ⟨o, s₂, hsteps, -, hend, hq⟩ := Steps.callFree hM p X.admits X.cas X.clock (acts := []) hfr happ hPc trivial
  have hq' : vx_Q Qc XC mc ms free a (U.calling g mk a) o s₂ := hq
  rw [State.frames_setTop' g h.top] at hend
  obtain ⟨g₀, hg0⟩ := Option.isSome_iff_exists.mp h.top
  obtain ⟨r, hr⟩ := State.topJava?_eq_some.mp hg0
  have hr' : (({ U with heap := s₂.heap, slotsUsed := s₂.slotsUsed } : State).setVm s₂.vm).frames = .java g₀ :: r := hr
  rcases hq' with ⟨hqc, L, hfe, hL⟩ | ⟨q, rfl, E, ce, L, hx, hce, hcv, hcl, hW₂, hsm, hL⟩
  · obtain ⟨⟨v, rfl⟩, hW₂, e2, q2, q3, q4, q5, q6⟩ := id hfe
    have e3 : s₂ = ({ (U.calling g mk a).setFrames s₂.frames with heap := s₂.heap, slotsUsed := s₂.slotsUsed } : State).setVm s₂.vm := by
      have : s₂ = ({ s₂ with vm := (U.calling g mk a).vm } : State).setVm s₂.vm := rfl
      rw [e2] at this
      exact this
    obtain ⟨c₂, i₂, len₂, hc₂, hd₂, hf₂⟩ := hend
    have hW' : U.WarmedH s₂.vm := hW₂
    have hcc : c₂ = c := by
      have h1 : s₂.code? g.method = U.code? g.method := by
        rw [State.code?_eq, State.code?_eq, hW'.alike.method?]
      exact Option.some.inj (hc₂.symm.trans (h1.trans h.code))
    subst hcc
    have hlen : len₂ = len := by rw [hdg] at hd₂; cases hd₂; rfl
    subst hlen
    have hs₂ : s₂ = (({ U with heap := s₂.heap, slotsUsed := s₂.slotsUsed } : State).setVm s₂.vm).setTop { g with pc := g.pc + len₂, stack := v.toList ++ g.stack } := by
      refine e3.trans ?_
      rw [hf₂, State.calling_eq h.top, State.setFrames_setFrames, State.setTop_of_frames _ hr', hr]
      rfl
    have hsame : U.sameButNew ({ U with heap := s₂.heap, slotsUsed := s₂.slotsUsed } : State) L mc ms := by
      refine ⟨?_, q2, q3, q4, q5, q6⟩
      obtain ⟨t, ht, -⟩ := State.frames_cons hr
      show ({ U with heap := s₂.heap, slotsUsed := s₂.slotsUsed } : State) = { U.setFrames U.frames with heap := s₂.heap, slotsUsed := s₂.slotsUsed }
      rw [State.setFrames_self ht]
    subst hg
    refine Or.inl ⟨v, ⟨(({ U with heap := s₂.heap, slotsUsed := s₂.slotsUsed } : State).setVm s₂.vm), Ls ++ L, c0 + mc, s0 + ms⟩,
      ⟨X.admits, X.cas, X.clock, X.frames, X.room, X.hears, X.method, X.code, (X.here.setHeapUsed s₂.heap s₂.slotsUsed).setVm hW'.alike, X.tail, State.WarmedH.trans X.warmed hW', X.limits, X.bytes, X.same.trans (hsame.setVm s.vm)⟩,
      ⟨g, mk, s₂, L, rfl, rfl, hqc, rfl, hL, rfl, rfl⟩, ?_⟩
    show Steps p.tables e below _ ((({ U with heap := s₂.heap, slotsUsed := s₂.slotsUsed } : State).setVm s₂.vm).setTop { g with pc := g.pc + len₂, stack := v.toList ++ g.stack })
    rw [← hs₂]
    exact hsteps
  · obtain ⟨e2, q2, q3, q4, q5, q6⟩ := id hsm
    have e3 : s₂ = ({ (U.calling g mk a).setFrames s₂.frames with heap := s₂.heap, slotsUsed := s₂.slotsUsed } : State).setVm s₂.vm := by
      have : s₂ = ({ s₂ with vm := (U.calling g mk a).vm } : State).setVm s₂.vm := rfl
      rw [e2] at this
      exact this
    have hf₂ : s₂.frames = .throwing q :: .java g :: U.frames.tail := hend
    have hW' : U.WarmedH s₂.vm := hW₂
    have hs₂ : s₂ = ((({ U with heap := s₂.heap, slotsUsed := s₂.slotsUsed } : State).setVm s₂.vm).setTop g).pushFrame (.throwing q) := by
      refine e3.trans ?_
      rw [hf₂, State.calling_eq h.top, State.setFrames_setFrames, State.pushFrame, State.frames_setTop _ hr', State.setTop_of_frames _ hr', State.setFrames_setFrames, hr]
      rfl
    have hsame : U.sameButNew ({ U with heap := s₂.heap, slotsUsed := s₂.slotsUsed } : State) L mc ms := by
      refine ⟨?_, q2, q3, q4, q5, q6⟩
      obtain ⟨t, ht, -⟩ := State.frames_cons hr
      show ({ U with heap := s₂.heap, slotsUsed := s₂.slotsUsed } : State) = { U.setFrames U.frames with heap := s₂.heap, slotsUsed := s₂.slotsUsed }
      rw [State.setFrames_self ht]
    subst hg
    refine Or.inr ⟨q, ⟨(({ U with heap := s₂.heap, slotsUsed := s₂.slotsUsed } : State).setVm s₂.vm), Ls ++ L, c0 + mc, s0 + ms⟩,
      ⟨X.admits, X.cas, X.clock, X.frames, X.room, X.hears, X.method, X.code, (X.here.setHeapUsed s₂.heap s₂.slotsUsed).setVm hW'.alike, X.tail, State.WarmedH.trans X.warmed hW', X.limits, X.bytes, X.same.trans (hsame.setVm s.vm)⟩,
      ⟨g, mk, s₂, L, E, ce, rfl, rfl, hx, hce, hcv, hcl, rfl, hL, rfl, rfl⟩, ?_⟩
    show Steps p.tables e below _ (((({ U with heap := s₂.heap, slotsUsed := s₂.slotsUsed } : State).setVm s₂.vm).setTop g).pushFrame (.throwing q))
    rw [← hs₂]
    exact hsteps
end Payer
section Calls
variable {p : Program} {l : Launch} {e : Env} {R : Room} {s : State} {m : MethodId} {args : Array Value} {below : List Frame} {meth : Method} {c : Code} {T : State} {locs : List Loc} {cells slots : Nat}
theorem vx_callV (X : Stand p l e R s m args below meth c T locs cells slots) (hexec : p.tables.exec = Jvm.exec) {own C : String} {index : Nat} {y : MethodName} {bytes : ByteArray} {maxL : Nat} {ret : Option FieldType}
    (hown : s.vm.findClass own = some m.cls) (hlink : (Cond.methodLink own index y).before args s = true) (hinst : (Cond.instanceMethod y).before args s = true) (hsel : (Cond.selects C y y).before args s = true)
    (hcode : (Cond.code y bytes maxL ret).before args s = true) (hy : y.cls ≠ "java/lang/invoke/MethodHandle" ∧ y.cls ≠ "java/lang/invoke/VarHandle")
    {W9 : Nat} {Pre : Pt → Array Value → Prop} {Post : Pt → Array Value → Option Value → Pt → Prop} {PostX : Pt → Array Value → Addr → Pt → Prop} (hK : vx_Back l R p e below s args y 3 W9 Pre Post PostX)
    {b : Addr} {cellB : Cell} (hcell : T.heap[b]? = some cellB) (hobj : cellB.vm.isStatics = false) (hcls : s.vm.findClass C = some cellB.cls)
    {g : JFrame} (hg : g.method = m) (hsize : g.locals.size = c.maxLocals) {argsL rest : List Value} (hlen : ∀ sig, parseMethodDescriptor y.desc = some sig → argsL.length = sig.parameters.length)
    (hstack : g.stack = argsL.reverse ++ .ref b :: rest) (hW : 2 * g.monitorRoom + (rest.map fun v => v.category).sum ≤ W9) (hdg : decode c.code g.pc = .ok (.invokevirtual index, 3))
    (hpre : ∀ vm₁, s.WarmedH vm₁ → Pre ⟨T.setVm vm₁, locs, cells, slots⟩ (Value.ref b :: argsL).toArray) :
    (∃ (v : Option Value) (vm₁ : Vm) (B : Pt), s.WarmedH vm₁ ∧ Stand p l e R s m args below meth c B.U B.locs B.cells B.slots ∧ Post ⟨T.setVm vm₁, locs, cells, slots⟩ (Value.ref b :: argsL).toArray v B ∧
      ∀ target, Steps p.tables e below (B.U.setTop { g with pc := g.pc + 3, stack := v.toList ++ rest }) target → Steps p.tables e below (T.setTop g) target) ∨
    (∃ (q : Addr) (vm₁ : Vm) (B : Pt), s.WarmedH vm₁ ∧ Stand p l e R s m args below meth c B.U B.locs B.cells B.slots ∧ PostX ⟨T.setVm vm₁, locs, cells, slots⟩ (Value.ref b :: argsL).toArray q B ∧
      Steps p.tables e below (T.setTop g) ((B.U.setTop { g with stack := rest }).pushFrame (.throwing q))) := by
  obtain ⟨mk, methM, hnamed, hmethM, hstM, habM⟩ := Cond.instanceMethod_spec hinst
  obtain ⟨methM', cM, hmethM', -, -, -, -, -, -, hsigM⟩ := Cond.code_spec hnamed hcode
  cases hmethM.symm.trans hmethM'
  obtain ⟨c2, r2, m2, q1, q2, q3, q4, kP, hkP, hkPi⟩ := Cond.selects_spec hsel
  cases hcls.symm.trans q1
  cases (State.methodFound?_of_named hnamed hy).symm.trans q2
  cases hnamed.symm.trans q3
  have hselP : selectMethod e.platform s.vm cellB.cls mk = .method mk := by rw [Launch.admits_selectMethod X.admits]; exact q4
  obtain ⟨vm₁, X₁, hstep₁⟩ := X.invokevirtual hexec hown hlink hnamed hmethM hstM hkP hkPi hy (a := b) (cell := cellB) hcell
    (fun z h => by rw [h] at hobj; cases hobj) hselP hmethM habM hkP hkPi (g := g) hg (argsL := argsL) (rest := rest) (hlen _ hsigM) hstack hdg
  rcases hK m meth c ⟨T.setVm vm₁, locs, cells, slots⟩ { g with stack := rest } (.invokevirtual index) mk (Value.ref b :: argsL).toArray X₁ hg hsize hdg hW (X₁.named hnamed) (hpre vm₁ X₁.warmed) with ⟨v, B, X', hpost, hsteps⟩ | ⟨q, B, X', hpost, hsteps⟩
  · exact Or.inl ⟨v, vm₁, B, X₁.warmed, X', hpost, fun target h => hstep₁ _ fun acts => by rw [doInvoke_state]; exact hsteps.trans h⟩
  · exact Or.inr ⟨q, vm₁, B, X₁.warmed, X', hpost, hstep₁ _ fun acts => by rw [doInvoke_state]; exact hsteps⟩
theorem vx_callS (X : Stand p l e R s m args below meth c T locs cells slots) (hexec : p.tables.exec = Jvm.exec) {own : String} {index : Nat} {y : MethodName} {bytes : ByteArray} {maxL : Nat} {ret : Option FieldType}
    (hown : s.vm.findClass own = some m.cls) (hlink : (Cond.methodLink own index y).before args s = true) (hstat : (Cond.static y).before args s = true) (hinit : (Cond.initialized y.cls).before args s = true)
    (hcode : (Cond.code y bytes maxL ret).before args s = true) (hy : y.cls ≠ "java/lang/invoke/MethodHandle" ∧ y.cls ≠ "java/lang/invoke/VarHandle")
    {W9 : Nat} {Pre : Pt → Array Value → Prop} {Post : Pt → Array Value → Option Value → Pt → Prop} {PostX : Pt → Array Value → Addr → Pt → Prop} (hK : vx_Back l R p e below s args y 3 W9 Pre Post PostX)
    {g : JFrame} (hg : g.method = m) (hsize : g.locals.size = c.maxLocals) {argsL rest : List Value} (hlen : ∀ sig, parseMethodDescriptor y.desc = some sig → argsL.length = sig.parameters.length)
    (hstack : g.stack = argsL.reverse ++ rest) (hW : 2 * g.monitorRoom + (rest.map fun v => v.category).sum ≤ W9) (hdg : decode c.code g.pc = .ok (.invokestatic index, 3))
    (hpre : ∀ vm₁, s.WarmedH vm₁ → Pre ⟨T.setVm vm₁, locs, cells, slots⟩ argsL.toArray) :
    (∃ (v : Option Value) (vm₁ : Vm) (B : Pt), s.WarmedH vm₁ ∧ Stand p l e R s m args below meth c B.U B.locs B.cells B.slots ∧ Post ⟨T.setVm vm₁, locs, cells, slots⟩ argsL.toArray v B ∧
      ∀ target, Steps p.tables e below (B.U.setTop { g with pc := g.pc + 3, stack := v.toList ++ rest }) target → Steps p.tables e below (T.setTop g) target) ∨
    (∃ (q : Addr) (vm₁ : Vm) (B : Pt), s.WarmedH vm₁ ∧ Stand p l e R s m args below meth c B.U B.locs B.cells B.slots ∧ PostX ⟨T.setVm vm₁, locs, cells, slots⟩ argsL.toArray q B ∧
      Steps p.tables e below (T.setTop g) ((B.U.setTop { g with stack := rest }).pushFrame (.throwing q))) := by
  obtain ⟨mk, hnamed⟩ := Cond.code_named hcode
  obtain ⟨methM, cM, hmethM, -, -, -, -, -, -, hsigM⟩ := Cond.code_spec hnamed hcode
  have hstatic : methM.isStatic = true := Cond.static_spec hnamed hmethM hstat
  obtain ⟨kP, hkP, -⟩ := className_of_methodNamed hnamed
  have hinitP : kP.init = .initialized := Cond.initialized_spec (findClass_of_methodNamed hnamed) hkP hinit
  obtain ⟨vm₁, X₁, hstep₁⟩ := X.invokestatic hexec hown hlink hnamed hmethM hstatic hkP hinitP hy (g := g) hg (argsL := argsL) (rest := rest) (hlen _ hsigM) hstack hdg
  rcases hK m meth c ⟨T.setVm vm₁, locs, cells, slots⟩ { g with stack := rest } (.invokestatic index) mk argsL.toArray X₁ hg hsize hdg hW (X₁.named hnamed) (hpre vm₁ X₁.warmed) with ⟨v, B, X', hpost, hsteps⟩ | ⟨q, B, X', hpost, hsteps⟩
  · exact Or.inl ⟨v, vm₁, B, X₁.warmed, X', hpost, fun target h => hstep₁ _ fun acts => by rw [doInvoke_state]; exact hsteps.trans h⟩
  · exact Or.inr ⟨q, vm₁, B, X₁.warmed, X', hpost, hstep₁ _ fun acts => by rw [doInvoke_state]; exact hsteps⟩
end Calls
theorem vx_cls {s : State} {T : State} {vm₁ : Vm} {E : String} {k : ClassId} (hW : s.WarmedH vm₁) (h : (T.setVm vm₁).vm.findClass E = some k) : s.vm.findClass E = some k := by
  have h1 : vm₁.findClass E = some k := h
  rw [hW.alike.findClass] at h1
  exact h1
/-- the method's frame g, with q thrown over it -/
def vx_W (p : Program) (l : Launch) (e : Env) (R : Room) (s : State) (m : MethodId) (args : Array Value) (below : List Frame) (meth : Method) (c : Code) (H : Heap) (locs : List Loc) (cells slots : Nat) (Q : State → Prop) (g : JFrame) (q : Addr) : Prop :=
  ∀ T : State, T.heap = H → Stand p l e R s m args below meth c T locs cells slots → ∃ t, Steps p.tables e below ((T.setTop g).pushFrame (.throwing q)) t ∧ Q t
def vx_Run (p : Program) (l : Launch) (e : Env) (R : Room) (s : State) (m : MethodId) (args : Array Value) (below : List Frame) (meth : Method) (c : Code) (H : Heap) (locs : List Loc) (cells slots mc ms : Nat) (g : JFrame) (rest : List Value) (Qa : State → Outcome → State → Prop) (XC : String → State → State → Prop) (free : Addr → Prop) : Prop :=
  ∀ T : State, T.heap = H → Stand p l e R s m args below meth c T locs cells slots →
    (∃ (v : Option Value) (st₀ t T' : State) (L : List Loc), st₀.heap = H ∧ Stand p l e R s m args below meth c T' (locs ++ L) (cells + mc) (slots + ms) ∧ (∀ q ∈ L, free q.base) ∧ T'.heap = t.heap ∧ T'.vm = t.vm ∧ Qa st₀ (.returned v) t ∧
      Goes p e below T g T' { g with pc := g.pc + 3, stack := v.toList ++ rest }) ∨
    (∃ (q : Addr) (st₀ t T' : State) (L : List Loc) (E : String) (ce : Cell), st₀.heap = H ∧ Stand p l e R s m args below meth c T' (locs ++ L) (cells + mc) (slots + ms) ∧ (∀ z ∈ L, free z.base) ∧ T'.heap = t.heap ∧ T'.vm = t.vm ∧ XC E st₀ t ∧ t.heap[q]? = some ce ∧ ce.vm = .none ∧ s.vm.findClass E = some ce.cls ∧
      Steps p.tables e below (T.setTop g) ((T'.setTop { g with stack := rest }).pushFrame (.throwing q)))
def vx_X {S : Type} (px : S → Prop) (B : String → S → State → Prop) (A : Nat → Prop) : String → State → State → Prop := fun E st t => ∃ u : S, px u ∧ B E u t ∧ va_F A st t
section Runs
variable {p : Program} {l : Launch} {e : Env} {R : Room} {s : State} {m : MethodId} {args : Array Value} {below : List Frame} {meth : Method} {c : Code} {H : Heap} {locs : List Loc} {cells slots : Nat}
variable {y : MethodName} {bytes cc : ByteArray} {maxL nL mc ms n index : Nat} {ret : Option FieldType} {ws : List Cond} {rm : Room} {Pc : Array Value → State → Prop} {Qc : Array Value → State → Outcome → State → Prop} {XC : String → State → State → Prop} {free : Addr → Prop} {Ts : List Cond} {own C : String} {b : Addr} {As rest : List Value} {g : JFrame}
theorem vx_callBack (cb : CallB R s args own index y bytes maxL ret ws rm mc ms n) (hM : vx_Met l y ws rm Pc Qc XC mc ms free) (hbl : FrameBlind Pc) : vx_Back l R p e below s args y 3 8 (PreOf R mc ms Pc) (PostOf Qc mc ms free) (vx_Post XC mc ms free) := by
  obtain ⟨hrc, hrs, hfr, hlo, hws, hcw, -, hini, -⟩ := cb
  exact vx_back (bytes := bytes) (maxL := maxL) (ret := ret) hM hbl hrc hrs hfr hlo hws hcw (fun a' U hW => word_at hW (Or.inl (by first | rfl | simp [Cond.onTables, Cond.keeps, Cond.steady])) hini)
theorem vx_runV (S : CallFix p m c cc nL s args Ts own) (hM : vx_Met l y ws rm Pc Qc XC mc ms free) (cw : CallW R s args own C index y bytes maxL ret ws rm mc ms n) (hp : PreV s H C b Pc As)
    (hg : g.method = m) (hn : As.length = n) (hsize : g.locals.size = nL) (hstack : g.stack = As.reverse ++ .ref b :: rest) (hW : 2 * g.monitorRoom + (rest.map fun v => v.category).sum ≤ 8) (hdg : decode cc g.pc = .ok (.invokevirtual index, 3)) (hf : cells + mc ≤ R.cells ∧ slots + ms ≤ R.slots) :
    vx_Run p l e R s m args below meth c H locs cells slots mc ms g rest (Qc (Value.ref b :: As).toArray) XC free := by
  have hK : vx_Back l R p e below s args y 3 8 (PreOf R mc ms Pc) (PostOf Qc mc ms free) (vx_Post XC mc ms free) := vx_callBack cw.1 hM hp.1
  obtain ⟨⟨-, -, -, -, -, -, hcode, -, hy, hlen, hl⟩, hin, hse⟩ := cw
  obtain ⟨hx, hb, hml, ho, -⟩ := S
  obtain ⟨-, ⟨cellB, hcB, hoB, hclB⟩, hPc⟩ := hp
  intro T hT X
  rcases vx_callV X hx (C := C) (bytes := bytes) (maxL := maxL) (ret := ret) ho hl hin hse hcode hy hK (by rw [hT]; exact hcB) hoB hclB hg (hsize.trans hml.symm) (argsL := As) (rest := rest) (fun sig h => hn.trans (hlen sig h)) hstack hW (by rw [hb]; exact hdg)
    (fun vm₁ hW₁ => ⟨hf.1, hf.2, hPc (T.setVm vm₁) hT hW₁⟩) with ⟨v, vm₁, ⟨U', l2, c2, s2⟩, hW₁, X', ⟨g', mk, t, L, e1, e2, hq, h1, hL, h2, h3⟩, st⟩ | ⟨q, vm₁, ⟨U', l2, c2, s2⟩, hW₁, X', ⟨g', mk, t, L, E, ce, e1, e2, hq, hce, hcv, hcl, h1, hL, h2, h3⟩, st⟩
  · dsimp only [Pt.U, Pt.locs, Pt.cells, Pt.slots] at X' e1 e2 h1 h2 h3 st
    subst h1; subst h2; subst h3
    exact Or.inl ⟨v, (T.setVm vm₁).calling g' mk (Value.ref b :: As).toArray, t, U', L, hT, X', hL, e1, e2, hq, st⟩
  · dsimp only [Pt.U, Pt.locs, Pt.cells, Pt.slots] at X' e1 e2 h1 h2 h3 st hcl
    subst h1; subst h2; subst h3
    exact Or.inr ⟨q, (T.setVm vm₁).calling g' mk (Value.ref b :: As).toArray, t, U', L, E, ce, hT, X', hL, e1, e2, hq, hce, hcv, vx_cls hW₁ hcl, st⟩
theorem vx_runS (S : CallFix p m c cc nL s args Ts own) (hM : vx_Met l y ws rm Pc Qc XC mc ms free) (cw : CallB R s args own index y bytes maxL ret ws rm mc ms n ∧ (Cond.static y).before args s = true) (hp : PreS s H Pc As)
    (hg : g.method = m) (hn : As.length = n) (hsize : g.locals.size = nL) (hstack : g.stack = As.reverse ++ rest) (hW : 2 * g.monitorRoom + (rest.map fun v => v.category).sum ≤ 8) (hdg : decode cc g.pc = .ok (.invokestatic index, 3)) (hf : cells + mc ≤ R.cells ∧ slots + ms ≤ R.slots) :
    vx_Run p l e R s m args below meth c H locs cells slots mc ms g rest (Qc As.toArray) XC free := by
  have hK : vx_Back l R p e below s args y 3 8 (PreOf R mc ms Pc) (PostOf Qc mc ms free) (vx_Post XC mc ms free) := vx_callBack cw.1 hM hp.1
  obtain ⟨⟨-, -, -, -, -, -, hcode, hini, hy, hlen, hl⟩, hstt⟩ := cw
  obtain ⟨hx, hb, hml, ho, -⟩ := S
  intro T hT X
  rcases vx_callS X hx (bytes := bytes) (maxL := maxL) (ret := ret) ho hl hstt hini hcode hy hK hg (hsize.trans hml.symm) (argsL := As) (rest := rest) (fun sig h => hn.trans (hlen sig h)) hstack hW (by rw [hb]; exact hdg)
    (fun vm₁ hW₁ => ⟨hf.1, hf.2, hp.2 (T.setVm vm₁) hT hW₁⟩) with ⟨v, vm₁, ⟨U', l2, c2, s2⟩, hW₁, X', ⟨g', mk, t, L, e1, e2, hq, h1, hL, h2, h3⟩, st⟩ | ⟨q, vm₁, ⟨U', l2, c2, s2⟩, hW₁, X', ⟨g', mk, t, L, E, ce, e1, e2, hq, hce, hcv, hcl, h1, hL, h2, h3⟩, st⟩
  · dsimp only [Pt.U, Pt.locs, Pt.cells, Pt.slots] at X' e1 e2 h1 h2 h3 st
    subst h1; subst h2; subst h3
    exact Or.inl ⟨v, (T.setVm vm₁).calling g' mk As.toArray, t, U', L, hT, X', hL, e1, e2, hq, st⟩
  · dsimp only [Pt.U, Pt.locs, Pt.cells, Pt.slots] at X' e1 e2 h1 h2 h3 st hcl
    subst h1; subst h2; subst h3
    exact Or.inr ⟨q, (T.setVm vm₁).calling g' mk As.toArray, t, U', L, E, ce, hT, X', hL, e1, e2, hq, hce, hcv, vx_cls hW₁ hcl, st⟩
end Runs
section Rows
variable {p : Program} {l : Launch} {e : Env} {R : Room} {s : State} {m : MethodId} {args : Array Value} {below : List Frame} {meth : Method} {c : Code} {H : Heap} {locs : List Loc} {cells slots : Nat} {Q : State → Prop}
variable {mc ms : Nat} {free : Addr → Prop} {A0 A1 : Nat → Prop} {H0 : Heap} {a : Array Value} {pc : Nat} {ls : Array Slot} {st0 rest : List Value}
theorem vx_keep {st₀ t T' : State} {L : List Loc} (h0 : st₀.heap = H) (e1 : T'.heap = t.heap) (hS : va_S A0 H0 H locs) (hA : ∀ q, q < H.size → A1 q → A0 q) (hf : ∀ q, free q → A0 q) (hL : ∀ q ∈ L, free q.base) (hF : va_F A1 st₀ t) :
    H.size ≤ T'.heap.size ∧ (∀ q : Nat, q < H.size → ¬ A1 q → T'.heap[q]? = H[q]?) ∧ va_S A0 H0 T'.heap (locs ++ L) := by
  obtain ⟨hz, hk⟩ := hF
  rw [h0] at hz hk
  exact ⟨by rw [e1]; exact hz, fun q h1 h2 => by rw [e1]; exact hk q h1 h2,
    ⟨Nat.le_trans hS.1 (by rw [e1]; exact hz), fun q h1 h2 => by rw [e1, hk q (Nat.lt_of_lt_of_le h1 hS.1) (fun z => h2 (hA q (Nat.lt_of_lt_of_le h1 hS.1) z))]; exact hS.2.1 q h1 h2, fun q hq => by
      rcases List.mem_append.mp hq with h | h
      · exact hS.2.2 q h
      · exact hf _ (hL q h)⟩⟩
theorem vx_calli {S SX : Type} {post : Int32 → S → Prop} {px : SX → Prop} {B : S → State → Prop} {BX : String → SX → State → Prop} {AX : Nat → Prop} (hr : vx_Run p l e R s m args below meth c H locs cells slots mc ms (F0 m pc ls st0) rest (va_Qi post B A1 a) (vx_X px BX AX) free) (hS : va_S A0 H0 H locs) (hA : ∀ q, q < H.size → A1 q → A0 q) (hf : ∀ q, free q → A0 q) (hAX : ∀ q, q < H.size → AX q → A0 q)
    (kx : ∀ (E : String) (ce : Cell) (q9 : Addr) (u : SX) (t : State) (H1 : Heap) (locs1 : List Loc), t.heap = H1 → s.vm.Alike t.vm → px u → BX E u t → H.size ≤ H1.size → (∀ q : Nat, q < H.size → ¬ AX q → H1[q]? = H[q]?) → va_S A0 H0 H1 locs1 → H1[q9]? = some ce → ce.vm = .none → s.vm.findClass E = some ce.cls → vx_W p l e R s m args below meth c H1 locs1 (cells + mc) (slots + ms) Q (F0 m pc ls rest) q9)
    (kk : ∀ (r : Int32) (u : S) (t : State) (H1 : Heap) (locs1 : List Loc), t.heap = H1 → s.vm.Alike t.vm → post r u → B u t → H.size ≤ H1.size → (∀ q : Nat, q < H.size → ¬ A1 q → H1[q]? = H[q]?) → va_S A0 H0 H1 locs1 → W p l e R s m args below meth c H1 locs1 (cells + mc) (slots + ms) Q (F0 m (pc + 3) ls (.int r :: rest))) : W p l e R s m args below meth c H locs cells slots Q (F0 m pc ls st0) := by
  intro T hT X
  rcases hr T hT X with ⟨v, st₀, t, T', L, h0, X', hL, e1, e2, ⟨⟨r, u, hv, hp, hb⟩, hF⟩, st⟩ | ⟨q, st₀, t, T', L, E, ce, h0, X', hL, e1, e2, ⟨u, hp, hb, hF⟩, hce, hcv, hcl, st⟩
  · cases hv
    obtain ⟨k1, k2, k3⟩ := vx_keep h0 e1 hS hA hf hL hF
    obtain ⟨t2, a1, b1⟩ := kk r u t T'.heap (locs ++ L) e1.symm (by rw [← e2]; exact X'.warmed.alike) hp hb k1 k2 k3 T' rfl X'
    exact ⟨t2, st t2 a1, b1⟩
  · obtain ⟨k1, k2, k3⟩ := vx_keep h0 e1 hS hAX hf hL hF
    obtain ⟨t2, a1, b1⟩ := kx E ce q u t T'.heap (locs ++ L) e1.symm (by rw [← e2]; exact X'.warmed.alike) hp hb k1 k2 k3 (by rw [e1]; exact hce) hcv hcl T' rfl X'
    exact ⟨t2, st.trans a1, b1⟩
theorem vx_calll {S SX : Type} {post : Int64 → S → Prop} {px : SX → Prop} {B : S → State → Prop} {BX : String → SX → State → Prop} {AX : Nat → Prop} (hr : vx_Run p l e R s m args below meth c H locs cells slots mc ms (F0 m pc ls st0) rest (va_Ql post B A1 a) (vx_X px BX AX) free) (hS : va_S A0 H0 H locs) (hA : ∀ q, q < H.size → A1 q → A0 q) (hf : ∀ q, free q → A0 q) (hAX : ∀ q, q < H.size → AX q → A0 q)
    (kx : ∀ (E : String) (ce : Cell) (q9 : Addr) (u : SX) (t : State) (H1 : Heap) (locs1 : List Loc), t.heap = H1 → s.vm.Alike t.vm → px u → BX E u t → H.size ≤ H1.size → (∀ q : Nat, q < H.size → ¬ AX q → H1[q]? = H[q]?) → va_S A0 H0 H1 locs1 → H1[q9]? = some ce → ce.vm = .none → s.vm.findClass E = some ce.cls → vx_W p l e R s m args below meth c H1 locs1 (cells + mc) (slots + ms) Q (F0 m pc ls rest) q9)
    (kk : ∀ (r : Int64) (u : S) (t : State) (H1 : Heap) (locs1 : List Loc), t.heap = H1 → s.vm.Alike t.vm → post r u → B u t → H.size ≤ H1.size → (∀ q : Nat, q < H.size → ¬ A1 q → H1[q]? = H[q]?) → va_S A0 H0 H1 locs1 → W p l e R s m args below meth c H1 locs1 (cells + mc) (slots + ms) Q (F0 m (pc + 3) ls (.long r :: rest))) : W p l e R s m args below meth c H locs cells slots Q (F0 m pc ls st0) := by
  intro T hT X
  rcases hr T hT X with ⟨v, st₀, t, T', L, h0, X', hL, e1, e2, ⟨⟨r, u, hv, hp, hb⟩, hF⟩, st⟩ | ⟨q, st₀, t, T', L, E, ce, h0, X', hL, e1, e2, ⟨u, hp, hb, hF⟩, hce, hcv, hcl, st⟩
  · cases hv
    obtain ⟨k1, k2, k3⟩ := vx_keep h0 e1 hS hA hf hL hF
    obtain ⟨t2, a1, b1⟩ := kk r u t T'.heap (locs ++ L) e1.symm (by rw [← e2]; exact X'.warmed.alike) hp hb k1 k2 k3 T' rfl X'
    exact ⟨t2, st t2 a1, b1⟩
  · obtain ⟨k1, k2, k3⟩ := vx_keep h0 e1 hS hAX hf hL hF
    obtain ⟨t2, a1, b1⟩ := kx E ce q u t T'.heap (locs ++ L) e1.symm (by rw [← e2]; exact X'.warmed.alike) hp hb k1 k2 k3 (by rw [e1]; exact hce) hcv hcl T' rfl X'
    exact ⟨t2, st.trans a1, b1⟩
theorem vx_callf {S SX : Type} {post : UInt32 → S → Prop} {px : SX → Prop} {B : S → State → Prop} {BX : String → SX → State → Prop} {AX : Nat → Prop} (hr : vx_Run p l e R s m args below meth c H locs cells slots mc ms (F0 m pc ls st0) rest (va_Qf post B A1 a) (vx_X px BX AX) free) (hS : va_S A0 H0 H locs) (hA : ∀ q, q < H.size → A1 q → A0 q) (hf : ∀ q, free q → A0 q) (hAX : ∀ q, q < H.size → AX q → A0 q)
    (kx : ∀ (E : String) (ce : Cell) (q9 : Addr) (u : SX) (t : State) (H1 : Heap) (locs1 : List Loc), t.heap = H1 → s.vm.Alike t.vm → px u → BX E u t → H.size ≤ H1.size → (∀ q : Nat, q < H.size → ¬ AX q → H1[q]? = H[q]?) → va_S A0 H0 H1 locs1 → H1[q9]? = some ce → ce.vm = .none → s.vm.findClass E = some ce.cls → vx_W p l e R s m args below meth c H1 locs1 (cells + mc) (slots + ms) Q (F0 m pc ls rest) q9)
    (kk : ∀ (r : UInt32) (u : S) (t : State) (H1 : Heap) (locs1 : List Loc), t.heap = H1 → s.vm.Alike t.vm → post r u → B u t → H.size ≤ H1.size → (∀ q : Nat, q < H.size → ¬ A1 q → H1[q]? = H[q]?) → va_S A0 H0 H1 locs1 → W p l e R s m args below meth c H1 locs1 (cells + mc) (slots + ms) Q (F0 m (pc + 3) ls (.float r :: rest))) : W p l e R s m args below meth c H locs cells slots Q (F0 m pc ls st0) := by
  intro T hT X
  rcases hr T hT X with ⟨v, st₀, t, T', L, h0, X', hL, e1, e2, ⟨⟨r, u, hv, hp, hb⟩, hF⟩, st⟩ | ⟨q, st₀, t, T', L, E, ce, h0, X', hL, e1, e2, ⟨u, hp, hb, hF⟩, hce, hcv, hcl, st⟩
  · cases hv
    obtain ⟨k1, k2, k3⟩ := vx_keep h0 e1 hS hA hf hL hF
    obtain ⟨t2, a1, b1⟩ := kk r u t T'.heap (locs ++ L) e1.symm (by rw [← e2]; exact X'.warmed.alike) hp hb k1 k2 k3 T' rfl X'
    exact ⟨t2, st t2 a1, b1⟩
  · obtain ⟨k1, k2, k3⟩ := vx_keep h0 e1 hS hAX hf hL hF
    obtain ⟨t2, a1, b1⟩ := kx E ce q u t T'.heap (locs ++ L) e1.symm (by rw [← e2]; exact X'.warmed.alike) hp hb k1 k2 k3 (by rw [e1]; exact hce) hcv hcl T' rfl X'
    exact ⟨t2, st.trans a1, b1⟩
theorem vx_calld {S SX : Type} {post : UInt64 → S → Prop} {px : SX → Prop} {B : S → State → Prop} {BX : String → SX → State → Prop} {AX : Nat → Prop} (hr : vx_Run p l e R s m args below meth c H locs cells slots mc ms (F0 m pc ls st0) rest (va_Qd post B A1 a) (vx_X px BX AX) free) (hS : va_S A0 H0 H locs) (hA : ∀ q, q < H.size → A1 q → A0 q) (hf : ∀ q, free q → A0 q) (hAX : ∀ q, q < H.size → AX q → A0 q)
    (kx : ∀ (E : String) (ce : Cell) (q9 : Addr) (u : SX) (t : State) (H1 : Heap) (locs1 : List Loc), t.heap = H1 → s.vm.Alike t.vm → px u → BX E u t → H.size ≤ H1.size → (∀ q : Nat, q < H.size → ¬ AX q → H1[q]? = H[q]?) → va_S A0 H0 H1 locs1 → H1[q9]? = some ce → ce.vm = .none → s.vm.findClass E = some ce.cls → vx_W p l e R s m args below meth c H1 locs1 (cells + mc) (slots + ms) Q (F0 m pc ls rest) q9)
    (kk : ∀ (r : UInt64) (u : S) (t : State) (H1 : Heap) (locs1 : List Loc), t.heap = H1 → s.vm.Alike t.vm → post r u → B u t → H.size ≤ H1.size → (∀ q : Nat, q < H.size → ¬ A1 q → H1[q]? = H[q]?) → va_S A0 H0 H1 locs1 → W p l e R s m args below meth c H1 locs1 (cells + mc) (slots + ms) Q (F0 m (pc + 3) ls (.double r :: rest))) : W p l e R s m args below meth c H locs cells slots Q (F0 m pc ls st0) := by
  intro T hT X
  rcases hr T hT X with ⟨v, st₀, t, T', L, h0, X', hL, e1, e2, ⟨⟨r, u, hv, hp, hb⟩, hF⟩, st⟩ | ⟨q, st₀, t, T', L, E, ce, h0, X', hL, e1, e2, ⟨u, hp, hb, hF⟩, hce, hcv, hcl, st⟩
  · cases hv
    obtain ⟨k1, k2, k3⟩ := vx_keep h0 e1 hS hA hf hL hF
    obtain ⟨t2, a1, b1⟩ := kk r u t T'.heap (locs ++ L) e1.symm (by rw [← e2]; exact X'.warmed.alike) hp hb k1 k2 k3 T' rfl X'
    exact ⟨t2, st t2 a1, b1⟩
  · obtain ⟨k1, k2, k3⟩ := vx_keep h0 e1 hS hAX hf hL hF
    obtain ⟨t2, a1, b1⟩ := kx E ce q u t T'.heap (locs ++ L) e1.symm (by rw [← e2]; exact X'.warmed.alike) hp hb k1 k2 k3 (by rw [e1]; exact hce) hcv hcl T' rfl X'
    exact ⟨t2, st.trans a1, b1⟩
theorem vx_callv {S SX : Type} {post : S → Prop} {px : SX → Prop} {B : S → State → Prop} {BX : String → SX → State → Prop} {AX : Nat → Prop} (hr : vx_Run p l e R s m args below meth c H locs cells slots mc ms (F0 m pc ls st0) rest (va_Qv post B A1 a) (vx_X px BX AX) free) (hS : va_S A0 H0 H locs) (hA : ∀ q, q < H.size → A1 q → A0 q) (hf : ∀ q, free q → A0 q) (hAX : ∀ q, q < H.size → AX q → A0 q)
    (kx : ∀ (E : String) (ce : Cell) (q9 : Addr) (u : SX) (t : State) (H1 : Heap) (locs1 : List Loc), t.heap = H1 → s.vm.Alike t.vm → px u → BX E u t → H.size ≤ H1.size → (∀ q : Nat, q < H.size → ¬ AX q → H1[q]? = H[q]?) → va_S A0 H0 H1 locs1 → H1[q9]? = some ce → ce.vm = .none → s.vm.findClass E = some ce.cls → vx_W p l e R s m args below meth c H1 locs1 (cells + mc) (slots + ms) Q (F0 m pc ls rest) q9)
    (kk : ∀ (u : S) (t : State) (H1 : Heap) (locs1 : List Loc), t.heap = H1 → s.vm.Alike t.vm → post u → B u t → H.size ≤ H1.size → (∀ q : Nat, q < H.size → ¬ A1 q → H1[q]? = H[q]?) → va_S A0 H0 H1 locs1 → W p l e R s m args below meth c H1 locs1 (cells + mc) (slots + ms) Q (F0 m (pc + 3) ls (rest))) : W p l e R s m args below meth c H locs cells slots Q (F0 m pc ls st0) := by
  intro T hT X
  rcases hr T hT X with ⟨v, st₀, t, T', L, h0, X', hL, e1, e2, ⟨⟨u, hv, hp, hb⟩, hF⟩, st⟩ | ⟨q, st₀, t, T', L, E, ce, h0, X', hL, e1, e2, ⟨u, hp, hb, hF⟩, hce, hcv, hcl, st⟩
  · cases hv
    obtain ⟨k1, k2, k3⟩ := vx_keep h0 e1 hS hA hf hL hF
    obtain ⟨t2, a1, b1⟩ := kk u t T'.heap (locs ++ L) e1.symm (by rw [← e2]; exact X'.warmed.alike) hp hb k1 k2 k3 T' rfl X'
    exact ⟨t2, st t2 a1, b1⟩
  · obtain ⟨k1, k2, k3⟩ := vx_keep h0 e1 hS hAX hf hL hF
    obtain ⟨t2, a1, b1⟩ := kx E ce q u t T'.heap (locs ++ L) e1.symm (by rw [← e2]; exact X'.warmed.alike) hp hb k1 k2 k3 (by rw [e1]; exact hce) hcv hcl T' rfl X'
    exact ⟨t2, st.trans a1, b1⟩
/-- caught by the row x of this method's table; the rows ahead don't take it -/
theorem vx_catch {own name : String} {E : String} {ce : Cell} {q : Addr} (hown : s.vm.findClass own = some m.cls) (pre : List ExceptionTableEntry) (x : ExceptionTableEntry) (suf : List ExceptionTableEntry) (hsplit : c.exceptionTable.toList = pre ++ x :: suf)
    (hpass : ∀ z ∈ pre, covers z pc = false ∨ (z.catchType ≠ 0 ∧ ∃ nm : String, (Cond.classLink own z.catchType nm).before args s = true ∧ va_Nc E nm s)) (hx : covers x pc = true) (h0 : x.catchType ≠ 0)
    (hlink : (Cond.classLink own x.catchType name).before args s = true) (hcast : (Cond.castable E name).before args s = true) (hcell : H[q]? = some ce) (hv : ce.vm = .none) (hcl : s.vm.findClass E = some ce.cls)
    (kk : W p l e R s m args below meth c H locs cells slots Q (F0 m x.handlerPc ls [.ref q])) : vx_W p l e R s m args below meth c H locs cells slots Q (F0 m pc ls rest) q := by
  intro T hT X
  have hpl : e.platform.magicAccessors = ({} : Platform).magicAccessors := by rw [X.admits.platform]
  obtain ⟨c3, c4, hc3, hc4, hasg⟩ := Cond.castable_spec hcast
  cases Option.some.inj (hc3.symm.trans hcl)
  obtain ⟨c5, hc5, hcl5⟩ := Cond.classLink_spec hown hlink e.platform hpl
  cases Option.some.inj (hc4.symm.trans hc5)
  obtain ⟨vm', X', st⟩ := X.thenCaughtThrough q (g := F0 m pc ls rest) rfl (Steps.refl _) (by rw [hT]; exact hcell) (by rw [hv]; rfl) (by obtain ⟨k9, h9, -⟩ := Vm.findClass_spec hcl; exact ⟨k9, h9⟩) pre x suf hsplit
    (fun z hz => by
      rcases hpass z hz with h | ⟨hz0, nm, hl1, hn1⟩
      · exact Or.inl h
      · obtain ⟨c6, hc6, hcl6⟩ := Cond.classLink_spec hown hl1 e.platform hpl
        obtain ⟨a8, b8, h1, h2, h3⟩ := hn1
        cases Option.some.inj (h1.symm.trans hcl)
        cases Option.some.inj (h2.symm.trans hc6)
        exact Or.inr ⟨hz0, _, hcl6, h3⟩) hx (Or.inr ⟨h0, c4, hcl5, hasg⟩)
  obtain ⟨t, a1, b1⟩ := kk (T.setVm vm') hT X'
  exact ⟨t, st.trans a1, b1⟩
end Rows
section Ends
variable {p : Program} {l : Launch} {e : Env} {R : Room} {s : State} {m : MethodId} {args : Array Value} {below : List Frame} {meth : Method} {c : Code} {H : Heap} {locs : List Loc} {cells slots : Nat} {Q : State → Prop}
variable {mc ms : Nat} {free : Addr → Prop} {A0 A1 : Nat → Prop} {H0 : Heap} {a : Array Value} {ls : Array Slot} {st0 rest : List Value}
variable {Qc : Array Value → State → Outcome → State → Prop} {XC : String → State → State → Prop}
/-- what a body that may throw owes at its end -/
def vx_MQ (below : List Frame) (Qc : Array Value → State → Outcome → State → Prop) (XC : String → State → State → Prop) (a : Array Value) (s : State) (mc ms : Nat) (free : Addr → Prop) : State → Prop := fun t =>
  ∃ o, t.status = .running ∧ Ended t below o ∧ vx_Q Qc XC mc ms free a s o t
theorem vx_ret {g : JFrame} {mc ms : Nat} (k : W p l e R s m args below meth c H locs cells slots (MQ below Qc args s mc ms free) g) : W p l e R s m args below meth c H locs cells slots (vx_MQ below Qc XC args s mc ms free) g := by
  intro T hT X
  obtain ⟨t, a1, o, b1, b2, b3, b4⟩ := k T hT X
  exact ⟨t, a1, o, b1, b2, Or.inl ⟨b3, b4⟩⟩
/-- not caught here: it goes on to the caller -/
theorem vx_widen {g : JFrame} {q : Addr} {k n : Nat} (h1 : cells ≤ k) (h2 : slots ≤ n) (kk : vx_W p l e R s m args below meth c H locs k n Q g q) : vx_W p l e R s m args below meth c H locs cells slots Q g q := fun T hT X => kk T hT (stand_widen X h1 h2)
theorem vx_out {pc : Nat} {E : String} {ce : Cell} {q : Addr} {mc ms : Nat} (hout : ∀ x ∈ c.exceptionTable.toList, covers x pc = false) (hlocks : meth.locks = false) (hcell : H[q]? = some ce) (hv : ce.vm = .none) (hcl : s.vm.findClass E = some ce.cls)
    (hx : ∀ t : State, t.heap = H → s.vm.Alike t.vm → XC E s t) (hf : ∀ z ∈ locs, free z.base) (hc : cells ≤ mc) (hs : slots ≤ ms) :
    vx_W p l e R s m args below meth c H locs cells slots (vx_MQ below Qc XC args s mc ms free) (F0 m pc ls rest) q := by
  intro T hT X
  obtain ⟨st1, hrun, hend, hW, hsm⟩ := X.leaveThrown q (g := F0 m pc ls rest) rfl rfl rfl hout hlocks
  have hcell9 : (T.setFrames (.throwing q :: below)).heap[q]? = some ce := by
    show T.heap[q]? = some ce
    rw [hT]; exact hcell
  exact ⟨_, st1, .threw q, hrun, hend, Or.inr ⟨q, rfl, E, ce, locs, hx _ hT hW.alike, hcell9, hv, hcl, hW, hsm.mono hc hs, hf⟩⟩
theorem vx_frame {U : State} {k n : Nat} (h : s.sameButNew ({ U with vm := s.vm } : State) locs k n) : s.heap.size ≤ U.heap.size ∧ ∀ q : Nat, q < s.heap.size → (∀ z ∈ locs, z.base ≠ q) → U.heap[q]? = s.heap[q]? := by
  obtain ⟨-, h2, -, -, -, h6⟩ := h
  refine ⟨h2, fun q hq hz => ?_⟩
  obtain ⟨c9, e1, e2, e3, e4⟩ := h6 q _ (Array.getElem?_eq_getElem hq)
  have hs : c9.slots = (s.heap[q]).slots := Array.ext_getElem? fun i => e4 i fun hm => hz _ hm rfl
  have h9 : c9 = s.heap[q] := by
    rw [hs] at e2
    exact e2
  have e5 : U.heap[q]? = some c9 := e1
  rw [e5, h9, Array.getElem?_eq_getElem hq]
/-- the words of a throw but the four that speak of the heap -/
def vx_no (w : Cond) : Bool := decide (w ≠ .isRef (.static Bundle.tN "UNASSIGNED_STACK" Bundle.steD)) && decide (w ≠ .isRef (.static Bundle.tN "SUPPRESSED_SENTINEL" Bundle.listD)) && decide (w ≠ .laysStatic Bundle.tN "UNASSIGNED_STACK" Bundle.steD) && decide (w ≠ .laysStatic Bundle.tN "SUPPRESSED_SENTINEL" Bundle.listD)
def vx_at0 (own : String) (ic : Nat) (X : String) (names : List String) : List Cond := (Bundle.ownAtoms0 own ic X names).filter vx_no
def vx_atS (own : String) (ic : Nat) (X : String) (names : List String) : List Cond := (Bundle.ownAtoms own ic X names).filter vx_no
/-- a word that the tables alone decide, or a good one -/
def vx_ot (w : Cond) : Bool := w.onTables || goodWord w
theorem vx_ot_at {args a' : Array Value} {s U : State} {w : Cond} (hW : s.WarmedH U.vm) (hvm : s.vm = U.vm) (hg : vx_ot w = true) (h : w.before args s = true) : w.before a' U = true := by
  simp only [vx_ot, Bool.or_eq_true] at hg
  rcases hg with hg | hg
  · exact va_tabs hg hvm h
  · exact word_at hW (good_of_word hg) h
/-- a list's words: the good ones out of the method's own list, the others by premises of their own -/
theorem vx_hat {args : Array Value} {s : State} {L B : List Cond} (h1 : ∀ w ∈ L.filter goodWord, w.before args s = true) (h2 : ∀ w ∈ L.filter (fun w => !goodWord w), w ∈ B) (h3 : ∀ w ∈ B, w.before args s = true) : ∀ w ∈ L, w.before args s = true := by
  intro w hw
  by_cases g : goodWord w = true
  · exact h1 w (List.mem_filter.mpr ⟨hw, g⟩)
  · refine h3 w (h2 w (List.mem_filter.mpr ⟨hw, ?_⟩))
    show (!goodWord w) = true
    cases hgw : goodWord w
    · rfl
    · exact absurd hgw g
theorem vx_c {args : Array Value} {s : State} {w : Cond} {B : List Cond} (h : w.before args s = true) (t : ∀ w ∈ B, w.before args s = true) : ∀ w' ∈ w :: B, w'.before args s = true := fun w' h' => (List.mem_cons.mp h').elim (fun e => by rw [e]; exact h) (t w')
theorem vx_n {args : Array Value} {s : State} : ∀ w ∈ ([] : List Cond), w.before args s = true := fun _ h => nomatch h
theorem vx_own {args : Array Value} {s : State} {L : List Cond} (h1 : ∀ w ∈ L.filter vx_no, w.before args s = true)
    (hU : (Cond.isRef (.static Bundle.tN "UNASSIGNED_STACK" Bundle.steD)).before args s = true) (hN : (Cond.isRef (.static Bundle.tN "SUPPRESSED_SENTINEL" Bundle.listD)).before args s = true)
    (lU : (Cond.laysStatic Bundle.tN "UNASSIGNED_STACK" Bundle.steD).before args s = true) (lN : (Cond.laysStatic Bundle.tN "SUPPRESSED_SENTINEL" Bundle.listD).before args s = true) : ∀ w ∈ L, w.before args s = true := by
  intro w hw
  by_cases e1 : w = .isRef (.static Bundle.tN "UNASSIGNED_STACK" Bundle.steD)
  · rw [e1]; exact hU
  · by_cases e2 : w = .isRef (.static Bundle.tN "SUPPRESSED_SENTINEL" Bundle.listD)
    · rw [e2]; exact hN
    · by_cases e3 : w = .laysStatic Bundle.tN "UNASSIGNED_STACK" Bundle.steD
      · rw [e3]; exact lU
      · by_cases e4 : w = .laysStatic Bundle.tN "SUPPRESSED_SENTINEL" Bundle.listD
        · rw [e4]; exact lN
        · exact h1 w (List.mem_filter.mpr ⟨hw, by unfold vx_no; rw [decide_eq_true e1, decide_eq_true e2, decide_eq_true e3, decide_eq_true e4]; rfl⟩)
/-- where a static field lies, its class's statics cell in H -/
def vx_L (C n d : String) (A : Nat → Prop) (U : State) (H : Heap) : Prop := ∃ (c : ClassId) (k : Class) (i : Nat) (f : Field) (a : Nat) (cell : Cell), U.vm.findClass C = some c ∧ U.fieldFound? C n d = some (c, k, i, f) ∧ f.isStatic = true ∧ k.statics = some a ∧ H[a]? = some cell ∧ cell.vm.isStatics = true ∧ cell.cls = c ∧ f.slot < cell.slots.size ∧ k.staticTypes[f.slot]? = some f.type ∧ ¬ A a
theorem vx_L.moved {C n d : String} {A : Nat → Prop} {u U : State} {H : Heap} (hvm : u.vm.Alike U.vm) (h : vx_L C n d A u H) : vx_L C n d A U H := by
  obtain ⟨c, k, i, f, a, cell, h1, h2, h3, h4, h5, h6, h7, h8, h9, h10⟩ := h
  obtain ⟨k', hi', he⟩ := State.fieldFound?_setVm hvm h2
  exact ⟨c, k', i, f, a, cell, by rw [hvm.findClass]; exact h1, hi', h3, by rw [he]; exact h4, h5, h6, h7, h8, by rw [he]; exact h9, h10⟩
theorem vx_L.kept {C n d : String} {A : Nat → Prop} {U : State} {H H1 : Heap} (h : vx_L C n d A U H) (hq : ∀ a : Nat, a < H.size → ¬ A a → H1[a]? = H[a]?) : vx_L C n d A U H1 := by
  obtain ⟨c, k, i, f, a, cell, h1, h2, h3, h4, h5, h6, h7, h8, h9, h10⟩ := h
  exact ⟨c, k, i, f, a, cell, h1, h2, h3, h4, by rw [hq a (Array.getElem?_eq_some_iff.mp h5).1 h10]; exact h5, h6, h7, h8, h9, h10⟩
theorem vx_L.narrow {C n d : String} {A B : Nat → Prop} {U : State} {H : Heap} (h : vx_L C n d A U H) (hAB : ∀ q, B q → A q) : vx_L C n d B U H := by
  obtain ⟨c, k, i, f, a, cell, h1, h2, h3, h4, h5, h6, h7, h8, h9, h10⟩ := h
  exact ⟨c, k, i, f, a, cell, h1, h2, h3, h4, h5, h6, h7, h8, h9, fun z => h10 (hAB _ z)⟩
theorem vx_L.word {C n d : String} {A : Nat → Prop} {s : State} {args : Array Value} (h : vx_L C n d A s s.heap) : (Cond.laysStatic C n d).before args s = true := by
  obtain ⟨c, k, i, f, a, cell, h1, h2, h3, h4, h5, h6, h7, h8, h9, -⟩ := h
  show (Cond.laysStatic C n d).holds args s none s [] = true
  exact Cond.laysStatic_of h1 h2 h3 h4 h5 h6 h7 h8 h9
/-- .. and what it holds: null or some reference -/
def vx_Zq (C n d : String) (A : Nat → Prop) (U : State) (H : Heap) : Prop := va_Zq C n d A U H ∧ vx_L C n d A U H
theorem vx_Zq.moved {C n d : String} {A : Nat → Prop} {u U : State} {H : Heap} (hvm : u.vm.Alike U.vm) (h : vx_Zq C n d A u H) : vx_Zq C n d A U H := ⟨va_Zq.moved hvm h.1, vx_L.moved hvm h.2⟩
theorem vx_Zq.kept {C n d : String} {A : Nat → Prop} {U : State} {H H1 : Heap} (h : vx_Zq C n d A U H) (hq : ∀ a : Nat, a < H.size → ¬ A a → H1[a]? = H[a]?) : vx_Zq C n d A U H1 := ⟨va_Zq.kept h.1 hq, vx_L.kept h.2 hq⟩
theorem vx_Zq.narrow {C n d : String} {A B : Nat → Prop} {U : State} {H : Heap} (h : vx_Zq C n d A U H) (hAB : ∀ q, B q → A q) : vx_Zq C n d B U H := ⟨va_Zq.narrow h.1 hAB, vx_L.narrow h.2 hAB⟩
theorem vx_Zqof {args : Array Value} {s : State} {C n d : String} {A : Nat → Prop} (hl : (Cond.laysStatic C n d).before args s = true) (hini : (Cond.initialized C).before args s = true) (h : (Cond.isRef (.static C n d)).before args s = true) (hA : ∀ a : Nat, a < s.heap.size → ¬ A a) : vx_Zq C n d A s s.heap := by
  refine ⟨va_Zqof hl hini h hA, ?_⟩
  obtain ⟨c, k, i, f, a, cell, h1, h2, h3, h4, h5, h6, h7, h8, h9⟩ := Cond.laysStatic_spec hl
  exact ⟨c, k, i, f, a, cell, h1, h2, h3, h4, h5, h6, h7, h8, h9, hA a (Array.getElem?_eq_some_iff.mp h5).1⟩
theorem vx_isRef {C n d : String} {v : Value} {A : Nat → Prop} {s : State} {args : Array Value} (h : va_Z C n d v A s s.heap) (hv : v.isRef = true) : (Cond.isRef (.static C n d)).before args s = true := by
  obtain ⟨cf, kf, fi, f, a, cell, h1, h2, h3, h4, h5, h6, h7, -⟩ := h
  have he : (Term.static C n d).eval args s none [] s = some v := by
    simp [Term.eval, State.fieldNamed?, h1, h2, h4, h5, h6, h7]
  simp only [Cond.before, Cond.holds, Cond.value, he]
  cases v <;> simp_all [Value.isRef]
theorem vx_isRefq {C n d : String} {A : Nat → Prop} {s : State} {args : Array Value} (h : va_Zq C n d A s s.heap) : (Cond.isRef (.static C n d)).before args s = true := by
  rcases h with h | ⟨t, h⟩
  · exact vx_isRef h rfl
  · exact vx_isRef h rfl
/-- the same frame, seen from here: as if the method were called anew in this heap -/
theorem vx_rebase {T : State} (X : Stand p l e R s m args below meth c T locs cells slots) {R' : Room} (hf : R'.frames ≤ R.frames) (hl : R'.locals ≤ R.locals) (hc : cells + R'.cells ≤ R.cells) (hs : slots + R'.slots ≤ R.slots) :
    Stand p l e R' ((T.setVm s.vm).setFrames (.invoking m args :: below)) m args below meth c T [] 0 0 := by
  have htop : (T.setVm s.vm).topJava?.isSome := X.here.top
  have hF : ((T.setVm s.vm).setFrames (.invoking m args :: below)).frames = .invoking m args :: below := State.frames_setFrames _ (State.cur_lt_of_top htop)
  obtain ⟨g₀, hg0⟩ := Option.isSome_iff_exists.mp htop
  obtain ⟨r, hr⟩ := State.topJava?_eq_some.mp hg0
  have hl9 : e.platform.stackLimits (T.setVm s.vm).me = e.platform.stackLimits s.me := X.limits
  have hb9 : (T.setVm s.vm).me.stackBytes = s.me.stackBytes := X.bytes
  refine ⟨X.admits, X.cas, X.clock, hF, ?_, X.hears, X.method, X.code, X.here, X.tail, X.warmed, ?_, ?_, ?_⟩
  · have h := X.room
    have hU : ((T.setVm s.vm).setFrames (.invoking m args :: below)).localsInUse = s.localsInUse := by
      rw [State.localsInUse_invoking hF (meth := meth) (c := c) X.method X.code, State.localsInUse_invoking X.frames X.method X.code]
    simp only [State.hasRoom, Bool.and_eq_true, decide_eq_true_eq] at h ⊢
    obtain ⟨⟨⟨⟨h1, h2, h3, h4, h5, h6⟩, h7⟩, h8⟩, h9⟩ := h
    rw [X.frames, List.length_cons] at h2 h3
    have q1 := X.heapSize
    have q2 := X.used
    simp only [hF, hU, List.length_cons, State.stackLimits_setFrames, State.stackBytes_setFrames, hl9, hb9]
    refine ⟨⟨⟨⟨by omega, by omega, by omega, by omega, by omega, h6⟩, ?_⟩, ?_⟩, X.book⟩
    · show T.heap.size + R'.cells ≤ e.platform.maxCells
      omega
    · show T.slotsUsed + R'.slots ≤ e.platform.maxSlots
      omega
  · rw [State.stackLimits_setFrames]; rfl
  · rw [State.stackBytes_setFrames]; rfl
  · refine ⟨?_, Nat.le_refl _, Nat.le_refl _, ?_, ?_, fun a c9 h9 => ⟨c9, h9, rfl, rfl, fun _ _ => rfl⟩⟩
    · obtain ⟨t, ht, -⟩ := State.frames_cons hr
      show T.setVm s.vm = { ((T.setVm s.vm).setFrames (.invoking m args :: below)).setFrames (T.setVm s.vm).frames with heap := T.heap, slotsUsed := T.slotsUsed }
      rw [State.setFrames_setFrames, State.setFrames_self ht]
      rfl
    · show T.slotsUsed = T.slotsUsed + ((T.heap.toList.drop T.heap.size).map (·.slots.size)).sum
      rw [List.drop_eq_nil_of_le (Nat.le_of_eq Array.length_toList)]
      rfl
    · show ((T.heap.toList.drop T.heap.size).map (·.slots.size)).sum ≤ 0
      rw [List.drop_eq_nil_of_le (Nat.le_of_eq Array.length_toList)]
      exact Nat.le_refl _
/-- 'throw new E()': new; dup; invokespecial; athrow -/
theorem vx_throw0 {cc : ByteArray} {pc : Nat} (hexec : p.tables.exec = Jvm.exec) (hb : c.code = cc) (hl : l.stackTraces = false) {own cls : String} {names : List String} {ik ic mc ms : Nat} {A : Nat → Prop}
    (hown : s.vm.findClass own = some m.cls) (hcls : Bundle.fit cls = true) (hnames : ∀ n ∈ names, Bundle.fit n = true)
    (hk : (Cond.classLink own ik cls).before args s = true) (hini : (Cond.initialized cls).before args s = true) (hat : ∀ w ∈ vx_at0 own ic cls names, w.before args s = true)
    (hgood : ∀ w ∈ Cond.classLink own ik cls :: Cond.initialized cls :: vx_at0 own ic cls names, vx_ot w = true)
    (hU : vx_Zq Bundle.tN "UNASSIGNED_STACK" Bundle.steD A s s.heap) (hN : vx_Zq Bundle.tN "SUPPRESSED_SENTINEL" Bundle.listD A s s.heap) (hS : va_S A s.heap H locs) (hsize : ls.size = c.maxLocals)
    (d0 : decode cc pc = .ok (.new ik, 3)) (d3 : decode cc (pc + 3) = .ok (.dup, 1)) (d4 : decode cc (pc + 4) = .ok (.invokespecial ic, 3)) (d7 : decode cc (pc + 7) = .ok (.athrow, 1))
    (hout : ∀ x ∈ c.exceptionTable.toList, covers x (pc + 7) = false)
    (hRframes : names.length + 3 < R.frames) (hRlocals : (rest.map fun v => v.category).sum + (13 * (names.length + 1) + 42) ≤ R.locals) (hRcells : cells + 1 ≤ R.cells) (hRslots : slots + 6 ≤ R.slots) (hlocks : meth.locks = false)
    (hx : ∀ t : State, s.vm.Alike t.vm → H.size ≤ t.heap.size → (∀ q : Nat, q < H.size → t.heap[q]? = H[q]?) → XC cls s t)
    (hf : ∀ z ∈ locs, free z.base) (hc : cells + 1 ≤ mc) (hs : slots + 6 ≤ ms) :
    W p l e R s m args below meth c H locs cells slots (vx_MQ below Qc XC args s mc ms free) (F0 m pc ls rest) := by
  intro T hT X
  have htr : e.platform.stackTraces = false := (show e.platform.stackTraces = l.stackTraces by rw [X.admits.platform]).trans hl
  have Y := vx_rebase X (R' := { frames := R.frames, locals := R.locals, cells := 1, slots := 6 }) (Nat.le_refl _) (Nat.le_refl _) hRcells hRslots
  obtain ⟨s', hA⟩ : ∃ z, z = (T.setVm s.vm).setFrames (.invoking m args :: below) := ⟨_, rfl⟩
  rw [← hA] at Y
  have hvm : s'.vm = s.vm := by rw [hA]; rfl
  have hhp : s'.heap = H := by rw [hA]; exact hT
  have hW0 : s.WarmedH s'.vm := by rw [hvm]; exact State.WarmedH.refl s
  have hat' : ∀ w ∈ vx_at0 own ic cls names, w.before args s' = true := fun w hw => vx_ot_at hW0 hvm.symm (hgood w (List.mem_cons_of_mem _ (List.mem_cons_of_mem _ hw))) (hat w hw)
  have hk' : (Cond.classLink own ik cls).before args s' = true := vx_ot_at hW0 hvm.symm (hgood _ List.mem_cons_self) hk
  have hini' : (Cond.initialized cls).before args s' = true := vx_ot_at hW0 hvm.symm (hgood _ (List.mem_cons_of_mem _ List.mem_cons_self)) hini
  have hU' : vx_Zq Bundle.tN "UNASSIGNED_STACK" Bundle.steD A s' s'.heap := by rw [hhp]; exact vx_Zq.moved hW0.alike (hU.kept hS.2.1)
  have hN' : vx_Zq Bundle.tN "SUPPRESSED_SENTINEL" Bundle.listD A s' s'.heap := by rw [hhp]; exact vx_Zq.moved hW0.alike (hN.kept hS.2.1)
  have h : ∀ w ∈ Bundle.ownAtoms0 own ic cls names, w.before args s' = true := vx_own hat' (vx_isRefq hU'.1) (vx_isRefq hN'.1) hU'.2.word hN'.2.word
  have hown' : s'.vm.findClass own = some m.cls := by rw [hvm]; exact hown
  have hins : (Cond.instantiable cls 6).before args s' = true := h _ (by simp [Bundle.ownAtoms0])
  obtain ⟨vm₁, cX, kX, hfX, hkX, -, -, X₁, st1⟩ := Y.newCold hexec (own := own) (C := cls) (index := ik) (n := 6) hown' hk' hins hini'
    (g := F0 m pc ls rest) rfl (by rw [hb]; exact d0) (Nat.le_refl _) (Nat.le_refl _)
  generalize hT1 : (T.setVm vm₁).pushCell { cls := cX, slots := kX.instanceTypes.map defaultValue, vm := .none } = T1 at X₁ st1
  have hcat : (Value.ref T.heap.size).category = 1 := rfl
  have hcellA : T1.heap[T.heap.size]? = some (freshCell cX kX) := by rw [← hT1]; exact State.heap_pushCell_size _ _
  have d3' : decode c.code (pc + 3) = .ok (.dup, 1) := by rw [hb]; exact d3
  obtain ⟨U, hsteps, hrun, hend, hW, hsame, ce, hce, hO⟩ := X₁.ctorThrow0 hexec htr (own := own) (cls := cls) (names := names) (ic := ic) hown' hcls hnames h (fun x hx => nomatch hx) hfX hkX hcellA (by rw [hhp, hT]; exact Nat.le_refl _)
    (g := { method := m, pc := pc + 4, locals := ls, stack := .ref T.heap.size :: .ref T.heap.size :: rest, locked := none }) rfl hsize rfl rfl (rest := rest) rfl
    (by rw [hb]; exact d4) (by rw [hb]; exact d7) hout hRframes (by simp only [List.map_cons, List.sum_cons, hcat]; omega) hlocks
  obtain ⟨f1, f2⟩ := vx_frame hsame
  rw [hhp] at f1 f2
  have hWs : s.WarmedH U.vm := State.WarmedH.trans hW0 hW
  have hcl : s.vm.findClass cls = some ce.cls := by
    have h9 := hO.cls
    rw [hvm] at h9
    exact h9
  have hall : s.sameButNew ({ U with vm := s.vm } : State) locs mc ms := by
    subst hA
    obtain ⟨e1, e2⟩ := hsame
    rw [State.setFrames_setFrames] at e1
    have h2 : (T.setVm s.vm).sameButNew ({ U with vm := s.vm } : State) [] (0 + 1) (0 + 6) := ⟨e1, e2⟩
    have h3 := X.same.trans h2
    rw [List.append_nil] at h3
    exact h3.mono hc hs
  refine ⟨U, ?_, .threw T.heap.size, hrun, hend, Or.inr ⟨T.heap.size, rfl, cls, ce, locs, hx U hWs.alike f1 (fun q hq => f2 q hq (fun z hz => nomatch hz)), hce, hO.vm, hcl, hWs, hall, hf⟩⟩
  refine st1 _ ?_
  show Steps p.tables e below (T1.setTop { method := m, pc := pc + 3, locals := ls, stack := .ref T.heap.size :: rest, locked := none }) _
  jvm_step X₁.here [X₁.here.top, hexec, d3', Value.category]
  exact hsteps
/-- 'throw new E("text")': new; dup; ldc; invokespecial; athrow -/
theorem vx_throwS {cc : ByteArray} {pc : Nat} (hexec : p.tables.exec = Jvm.exec) (hb : c.code = cc) (hl : l.stackTraces = false) {own cls text : String} {names : List String} {ik is ic mc ms sa : Nat} {A : Nat → Prop}
    (hown : s.vm.findClass own = some m.cls) (hcls : Bundle.fit cls = true) (hnames : ∀ n ∈ names, Bundle.fit n = true)
    (hk : (Cond.classLink own ik cls).before args s = true) (hini : (Cond.initialized cls).before args s = true) (hstr : vk_R own is text sa s) (hat : ∀ w ∈ vx_atS own ic cls names, w.before args s = true)
    (hgood : ∀ w ∈ Cond.classLink own ik cls :: Cond.initialized cls :: vx_atS own ic cls names, vx_ot w = true)
    (hU : vx_Zq Bundle.tN "UNASSIGNED_STACK" Bundle.steD A s s.heap) (hN : vx_Zq Bundle.tN "SUPPRESSED_SENTINEL" Bundle.listD A s s.heap) (hS : va_S A s.heap H locs) (hsize : ls.size = c.maxLocals)
    (d0 : decode cc pc = .ok (.new ik, 3)) (d3 : decode cc (pc + 3) = .ok (.dup, 1)) (d4 : decode cc (pc + 4) = .ok (.ldc is, 2)) (d6 : decode cc (pc + 6) = .ok (.invokespecial ic, 3)) (d9 : decode cc (pc + 9) = .ok (.athrow, 1))
    (hout : ∀ x ∈ c.exceptionTable.toList, covers x (pc + 9) = false)
    (hRframes : names.length + 3 < R.frames) (hRlocals : (rest.map fun v => v.category).sum + (13 * (names.length + 1) + 43) ≤ R.locals) (hRcells : cells + 1 ≤ R.cells) (hRslots : slots + 6 ≤ R.slots) (hlocks : meth.locks = false)
    (hx : ∀ t : State, s.vm.Alike t.vm → H.size ≤ t.heap.size → (∀ q : Nat, q < H.size → t.heap[q]? = H[q]?) → XC cls s t)
    (hf : ∀ z ∈ locs, free z.base) (hc : cells + 1 ≤ mc) (hs : slots + 6 ≤ ms) :
    W p l e R s m args below meth c H locs cells slots (vx_MQ below Qc XC args s mc ms free) (F0 m pc ls rest) := by
  intro T hT X
  have htr : e.platform.stackTraces = false := (show e.platform.stackTraces = l.stackTraces by rw [X.admits.platform]).trans hl
  have Y := vx_rebase X (R' := { frames := R.frames, locals := R.locals, cells := 1, slots := 6 }) (Nat.le_refl _) (Nat.le_refl _) hRcells hRslots
  obtain ⟨s', hA⟩ : ∃ z, z = (T.setVm s.vm).setFrames (.invoking m args :: below) := ⟨_, rfl⟩
  rw [← hA] at Y
  have hvm : s'.vm = s.vm := by rw [hA]; rfl
  have hhp : s'.heap = H := by rw [hA]; exact hT
  have hW0 : s.WarmedH s'.vm := by rw [hvm]; exact State.WarmedH.refl s
  have hat' : ∀ w ∈ vx_atS own ic cls names, w.before args s' = true := fun w hw => vx_ot_at hW0 hvm.symm (hgood w (List.mem_cons_of_mem _ (List.mem_cons_of_mem _ hw))) (hat w hw)
  have hk' : (Cond.classLink own ik cls).before args s' = true := vx_ot_at hW0 hvm.symm (hgood _ List.mem_cons_self) hk
  have hini' : (Cond.initialized cls).before args s' = true := vx_ot_at hW0 hvm.symm (hgood _ (List.mem_cons_of_mem _ List.mem_cons_self)) hini
  have hU' : vx_Zq Bundle.tN "UNASSIGNED_STACK" Bundle.steD A s' s'.heap := by rw [hhp]; exact vx_Zq.moved hW0.alike (hU.kept hS.2.1)
  have hN' : vx_Zq Bundle.tN "SUPPRESSED_SENTINEL" Bundle.listD A s' s'.heap := by rw [hhp]; exact vx_Zq.moved hW0.alike (hN.kept hS.2.1)
  have h : ∀ w ∈ Bundle.ownAtoms own ic cls names, w.before args s' = true := vx_own hat' (vx_isRefq hU'.1) (vx_isRefq hN'.1) hU'.2.word hN'.2.word
  have hown' : s'.vm.findClass own = some m.cls := by rw [hvm]; exact hown
  have hins : (Cond.instantiable cls 6).before args s' = true := h _ (by simp [Bundle.ownAtoms])
  obtain ⟨vm₁, cX, kX, hfX, hkX, -, -, X₁, st1⟩ := Y.newCold hexec (own := own) (C := cls) (index := ik) (n := 6) hown' hk' hins hini'
    (g := F0 m pc ls rest) rfl (by rw [hb]; exact d0) (Nat.le_refl _) (Nat.le_refl _)
  generalize hT1 : (T.setVm vm₁).pushCell { cls := cX, slots := kX.instanceTypes.map defaultValue, vm := .none } = T1 at X₁ st1
  have hcat : (Value.ref T.heap.size).category = 1 := rfl
  have hcellA : T1.heap[T.heap.size]? = some (freshCell cX kX) := by rw [← hT1]; exact State.heap_pushCell_size _ _
  have d3' : decode c.code (pc + 3) = .ok (.dup, 1) := by rw [hb]; exact d3
  have d4' : decode c.code (pc + 4) = .ok (.ldc is, 2) := by rw [hb]; exact d4
  have hstr' : vk_R own is text sa s' := vk_R.warm hW0 hstr
  obtain ⟨U, hsteps, hrun, hend, hW, hsame, ce, hce, hO⟩ := X₁.ctorThrowS hexec htr (own := own) (cls := cls) (names := names) (ic := ic) hown' hcls hnames h (fun x hx => nomatch hx) hfX hkX hcellA (by rw [hhp, hT]; exact Nat.le_refl _) (msg := .ref sa) rfl
    (g := { method := m, pc := pc + 6, locals := ls, stack := .ref sa :: .ref T.heap.size :: .ref T.heap.size :: rest, locked := none }) rfl hsize rfl rfl (rest := rest) rfl
    (by rw [hb]; exact d6) (by rw [hb]; exact d9) hout hRframes (by simp only [List.map_cons, List.sum_cons, hcat]; omega) hlocks
  obtain ⟨f1, f2⟩ := vx_frame hsame
  rw [hhp] at f1 f2
  have hWs : s.WarmedH U.vm := State.WarmedH.trans hW0 hW
  have hcl : s.vm.findClass cls = some ce.cls := by
    have h9 := hO.cls
    rw [hvm] at h9
    exact h9
  have hall : s.sameButNew ({ U with vm := s.vm } : State) locs mc ms := by
    subst hA
    obtain ⟨e1, e2⟩ := hsame
    rw [State.setFrames_setFrames] at e1
    have h2 : (T.setVm s.vm).sameButNew ({ U with vm := s.vm } : State) [] (0 + 1) (0 + 6) := ⟨e1, e2⟩
    have h3 := X.same.trans h2
    rw [List.append_nil] at h3
    exact h3.mono hc hs
  refine ⟨U, ?_, .threw T.heap.size, hrun, hend, Or.inr ⟨T.heap.size, rfl, cls, ce, locs, hx U hWs.alike f1 (fun q hq => f2 q hq (fun z hz => nomatch hz)), hce, hO.vm, hcl, hWs, hall, hf⟩⟩
  refine st1 _ ?_
  show Steps p.tables e below (T1.setTop { method := m, pc := pc + 3, locals := ls, stack := .ref T.heap.size :: rest, locked := none }) _
  jvm_step X₁.here [X₁.here.top, hexec, d3', Value.category]
  exact X₁.ldcString hexec (own := own) (text := text) (index := is) (a := sa) hown' hstr'.1 hstr'.2
    (g := { method := m, pc := pc + 4, locals := ls, stack := .ref T.heap.size :: .ref T.heap.size :: rest, locked := none }) rfl d4' _ hsteps
/-- 'throw new E("text")', the text by a wide index -/
theorem vx_throwSW {cc : ByteArray} {pc : Nat} (hexec : p.tables.exec = Jvm.exec) (hb : c.code = cc) (hl : l.stackTraces = false) {own cls text : String} {names : List String} {ik is ic mc ms sa : Nat} {A : Nat → Prop}
    (hown : s.vm.findClass own = some m.cls) (hcls : Bundle.fit cls = true) (hnames : ∀ n ∈ names, Bundle.fit n = true)
    (hk : (Cond.classLink own ik cls).before args s = true) (hini : (Cond.initialized cls).before args s = true) (hstr : vk_R own is text sa s) (hat : ∀ w ∈ vx_atS own ic cls names, w.before args s = true)
    (hgood : ∀ w ∈ Cond.classLink own ik cls :: Cond.initialized cls :: vx_atS own ic cls names, vx_ot w = true)
    (hU : vx_Zq Bundle.tN "UNASSIGNED_STACK" Bundle.steD A s s.heap) (hN : vx_Zq Bundle.tN "SUPPRESSED_SENTINEL" Bundle.listD A s s.heap) (hS : va_S A s.heap H locs) (hsize : ls.size = c.maxLocals)
    (d0 : decode cc pc = .ok (.new ik, 3)) (d3 : decode cc (pc + 3) = .ok (.dup, 1)) (d4 : decode cc (pc + 4) = .ok (.ldc_w is, 3)) (d7 : decode cc (pc + 7) = .ok (.invokespecial ic, 3)) (d10 : decode cc (pc + 10) = .ok (.athrow, 1))
    (hout : ∀ x ∈ c.exceptionTable.toList, covers x (pc + 10) = false)
    (hRframes : names.length + 3 < R.frames) (hRlocals : (rest.map fun v => v.category).sum + (13 * (names.length + 1) + 43) ≤ R.locals) (hRcells : cells + 1 ≤ R.cells) (hRslots : slots + 6 ≤ R.slots) (hlocks : meth.locks = false)
    (hx : ∀ t : State, s.vm.Alike t.vm → H.size ≤ t.heap.size → (∀ q : Nat, q < H.size → t.heap[q]? = H[q]?) → XC cls s t)
    (hf : ∀ z ∈ locs, free z.base) (hc : cells + 1 ≤ mc) (hs : slots + 6 ≤ ms) :
    W p l e R s m args below meth c H locs cells slots (vx_MQ below Qc XC args s mc ms free) (F0 m pc ls rest) := by
  intro T hT X
  have htr : e.platform.stackTraces = false := (show e.platform.stackTraces = l.stackTraces by rw [X.admits.platform]).trans hl
  have Y := vx_rebase X (R' := { frames := R.frames, locals := R.locals, cells := 1, slots := 6 }) (Nat.le_refl _) (Nat.le_refl _) hRcells hRslots
  obtain ⟨s', hA⟩ : ∃ z, z = (T.setVm s.vm).setFrames (.invoking m args :: below) := ⟨_, rfl⟩
  rw [← hA] at Y
  have hvm : s'.vm = s.vm := by rw [hA]; rfl
  have hhp : s'.heap = H := by rw [hA]; exact hT
  have hW0 : s.WarmedH s'.vm := by rw [hvm]; exact State.WarmedH.refl s
  have hat' : ∀ w ∈ vx_atS own ic cls names, w.before args s' = true := fun w hw => vx_ot_at hW0 hvm.symm (hgood w (List.mem_cons_of_mem _ (List.mem_cons_of_mem _ hw))) (hat w hw)
  have hk' : (Cond.classLink own ik cls).before args s' = true := vx_ot_at hW0 hvm.symm (hgood _ List.mem_cons_self) hk
  have hini' : (Cond.initialized cls).before args s' = true := vx_ot_at hW0 hvm.symm (hgood _ (List.mem_cons_of_mem _ List.mem_cons_self)) hini
  have hU' : vx_Zq Bundle.tN "UNASSIGNED_STACK" Bundle.steD A s' s'.heap := by rw [hhp]; exact vx_Zq.moved hW0.alike (hU.kept hS.2.1)
  have hN' : vx_Zq Bundle.tN "SUPPRESSED_SENTINEL" Bundle.listD A s' s'.heap := by rw [hhp]; exact vx_Zq.moved hW0.alike (hN.kept hS.2.1)
  have h : ∀ w ∈ Bundle.ownAtoms own ic cls names, w.before args s' = true := vx_own hat' (vx_isRefq hU'.1) (vx_isRefq hN'.1) hU'.2.word hN'.2.word
  have hown' : s'.vm.findClass own = some m.cls := by rw [hvm]; exact hown
  have hins : (Cond.instantiable cls 6).before args s' = true := h _ (by simp [Bundle.ownAtoms])
  obtain ⟨vm₁, cX, kX, hfX, hkX, -, -, X₁, st1⟩ := Y.newCold hexec (own := own) (C := cls) (index := ik) (n := 6) hown' hk' hins hini'
    (g := F0 m pc ls rest) rfl (by rw [hb]; exact d0) (Nat.le_refl _) (Nat.le_refl _)
  generalize hT1 : (T.setVm vm₁).pushCell { cls := cX, slots := kX.instanceTypes.map defaultValue, vm := .none } = T1 at X₁ st1
  have hcat : (Value.ref T.heap.size).category = 1 := rfl
  have hcellA : T1.heap[T.heap.size]? = some (freshCell cX kX) := by rw [← hT1]; exact State.heap_pushCell_size _ _
  have d3' : decode c.code (pc + 3) = .ok (.dup, 1) := by rw [hb]; exact d3
  have d4' : decode c.code (pc + 4) = .ok (.ldc_w is, 3) := by rw [hb]; exact d4
  have hstr' : vk_R own is text sa s' := vk_R.warm hW0 hstr
  obtain ⟨U, hsteps, hrun, hend, hW, hsame, ce, hce, hO⟩ := X₁.ctorThrowS hexec htr (own := own) (cls := cls) (names := names) (ic := ic) hown' hcls hnames h (fun x hx => nomatch hx) hfX hkX hcellA (by rw [hhp, hT]; exact Nat.le_refl _) (msg := .ref sa) rfl
    (g := { method := m, pc := pc + 7, locals := ls, stack := .ref sa :: .ref T.heap.size :: .ref T.heap.size :: rest, locked := none }) rfl hsize rfl rfl (rest := rest) rfl
    (by rw [hb]; exact d7) (by rw [hb]; exact d10) hout hRframes (by simp only [List.map_cons, List.sum_cons, hcat]; omega) hlocks
  obtain ⟨f1, f2⟩ := vx_frame hsame
  rw [hhp] at f1 f2
  have hWs : s.WarmedH U.vm := State.WarmedH.trans hW0 hW
  have hcl : s.vm.findClass cls = some ce.cls := by
    have h9 := hO.cls
    rw [hvm] at h9
    exact h9
  have hall : s.sameButNew ({ U with vm := s.vm } : State) locs mc ms := by
    subst hA
    obtain ⟨e1, e2⟩ := hsame
    rw [State.setFrames_setFrames] at e1
    have h2 : (T.setVm s.vm).sameButNew ({ U with vm := s.vm } : State) [] (0 + 1) (0 + 6) := ⟨e1, e2⟩
    have h3 := X.same.trans h2
    rw [List.append_nil] at h3
    exact h3.mono hc hs
  refine ⟨U, ?_, .threw T.heap.size, hrun, hend, Or.inr ⟨T.heap.size, rfl, cls, ce, locs, hx U hWs.alike f1 (fun q hq => f2 q hq (fun z hz => nomatch hz)), hce, hO.vm, hcl, hWs, hall, hf⟩⟩
  refine st1 _ ?_
  show Steps p.tables e below (T1.setTop { method := m, pc := pc + 3, locals := ls, stack := .ref T.heap.size :: rest, locked := none }) _
  jvm_step X₁.here [X₁.here.top, hexec, d3', Value.category]
  exact X₁.ldcStringW hexec (own := own) (text := text) (index := is) (a := sa) hown' hstr'.1 hstr'.2
    (g := { method := m, pc := pc + 4, locals := ls, stack := .ref T.heap.size :: .ref T.heap.size :: rest, locked := none }) rfl d4' _ hsteps
end Ends
section Bodies
variable {l : Launch}
theorem vx_ofW {y : MethodName} {ws ws' : List Cond} {rm : Room} {Pc : Array Value → State → Prop} {Qc : Array Value → State → Outcome → State → Prop} {XC : String → State → State → Prop} {mc ms : Nat} {free : Addr → Prop} {cc : ByteArray} {maxL : Nat} {ret : Option FieldType}
    (hy : plainName y.cls = true) (hw : ws = Cond.code y cc maxL ret :: ws')
    (body : ∀ p e s m args below meth c s₁, BodyLoose p l y (headSpec ws rm) cc maxL ret e s m args below meth c s₁ → c.maxLocals = maxL → (∀ x ∈ c.exceptionTable.toList, False) → Pc args s →
      W p l e (headSpec ws rm).room s m args below meth c s.heap [] 0 0 (vx_MQ below Qc XC args s mc ms free) (entryFrame m args maxL)) : vx_Met l y ws rm Pc Qc XC mc ms free := by
  refine MetFree.of_bodyS (code := cc) (maxLocals := maxL) (ret := ret) hy ?_ ?_
  · intro args s m h hn
    obtain ⟨meth, c, h1, h2, h3, h4, h5, h6, -, -⟩ := Cond.code_spec hn (atoms_spec (ws := ws) h _ (by rw [hw]; exact List.mem_cons_self))
    exact ⟨meth, c, h1, h2, h3, h4, h5, h6⟩
  · intro p e s m args below meth c s₁ B hml hP _
    have hh0 : s₁.heap = s.heap := by rw [B.state]; rfl
    have ht : ∀ x ∈ c.exceptionTable.toList, False := by
      obtain ⟨meth9, c9, h1, h2, -, -, -, -, h7, -⟩ := Cond.code_spec B.named (atoms_spec (ws := ws) B.pre _ (by rw [hw]; exact List.mem_cons_self))
      cases Option.some.inj (h1.symm.trans B.method)
      cases Option.some.inj (h2.symm.trans (Stand.of_body B).code)
      intro x hx
      rw [Array.isEmpty_iff.mp h7] at hx
      cases hx
    obtain ⟨t, a1, o, b1, b2, b3⟩ := body p e s m args below meth c s₁ B hml ht hP s₁ hh0 (Stand.of_body B)
    exact ⟨t, o, a1, b1, b2, b3⟩
/-- the table of a body with handlers -/
theorem vx_table {p : Program} {x y : MethodName} {S : Spec} {cc bytes : ByteArray} {maxL maxL' : Nat} {ret ret' : Option FieldType} {e : Env} {s s₁ : State} {m : MethodId} {args : Array Value} {below : List Frame} {meth : Method} {c : Code} {hh : List (Nat × Nat × Nat × Nat)}
    (B : BodyLoose p l y S cc maxL ret e s m args below meth c s₁) (h : (Cond.codeWith y bytes maxL' ret' hh).before args s = true) : c.exceptionTable.toList = tableOf hh := by
  obtain ⟨m9, meth9, c9, hn9, h1, h2, -, -, h6, -⟩ := Cond.codeWith_spec h
  cases Option.some.inj (hn9.symm.trans B.named)
  cases Option.some.inj (h1.symm.trans B.method)
  cases Option.some.inj (h2.symm.trans (Stand.of_body B).code)
  rw [← h6, table_eq]
end Bodies
end VXA
/-! ===== END ===== -/
/-! ===== BEGIN a static call of a method with an exception table ===== -/
section VXS
variable {p : Program} {l : Launch} {e : Env} {R : Room} {s : State} {m : MethodId} {args : Array Value} {below : List Frame} {meth : Method} {c : Code} {T : State} {H : Heap} {locs : List Loc} {cells slots : Nat}
abbrev vx_CSW (R : Room) (s : State) (args : Array Value) (own : String) (index : Nat) (y : MethodName) (bytes : ByteArray) (maxL : Nat) (ret : Option FieldType) (hh : List (Nat × Nat × Nat × Nat)) (ws : List Cond) (rm : Room) (mc ms n : Nat) : Prop :=
  (rm.cells = mc ∧ rm.slots = ms ∧ rm.frames + 1 ≤ R.frames ∧ 8 + (maxL + 11) + rm.locals ≤ R.locals ∧ (∀ w ∈ ws, ∀ (a' : Array Value) (U : State), s.WarmedH U.vm → w.before a' U = true) ∧ Cond.codeWith y bytes maxL ret hh ∈ ws) ∧
  (Cond.codeWith y bytes maxL ret hh).before args s = true ∧ (Cond.initialized y.cls).before args s = true ∧ (y.cls ≠ "java/lang/invoke/MethodHandle" ∧ y.cls ≠ "java/lang/invoke/VarHandle") ∧
  (∀ sig, parseMethodDescriptor y.desc = some sig → n = sig.parameters.length) ∧ (Cond.methodLink own index y).before args s = true ∧ (Cond.static y).before args s = true
theorem vx_cwSW {own : String} {index maxL mc ms : Nat} {y : MethodName} {bytes : ByteArray} {ret : Option FieldType} {hh : List (Nat × Nat × Nat × Nat)} {Ts ws ws' : List Cond} {rm : Room} (n : Nat) (ht : ∀ w ∈ Ts, w.before args s = true) (hT : GoodIn Ts (va_wsS own index y ws)) (hw : ws = Cond.codeWith y bytes maxL ret hh :: ws') (hrc : rm.cells = mc) (hrs : rm.slots = ms)
    (hd : y.cls ≠ "java/lang/invoke/MethodHandle" ∧ y.cls ≠ "java/lang/invoke/VarHandle" ∧ (parseMethodDescriptor y.desc).map (fun d => d.parameters.length) = some n) (hR : rm.frames + 1 ≤ R.frames ∧ 8 + (maxL + 11) + rm.locals ≤ R.locals) :
    vx_CSW R s args own index y bytes maxL ret hh ws rm mc ms n := by
  have ok : ∀ w ∈ va_wsS own index y ws, w.before args s = true := fun w h => ht w (hT w h).1
  have hG : GoodIn Ts ws := fun w h => hT w (by unfold va_wsS; exact List.mem_append_right _ h)
  have hc : Cond.codeWith y bytes maxL ret hh ∈ ws := by rw [hw]; exact List.mem_cons_self
  refine ⟨⟨hrc, hrs, hR.1, hR.2, pay_in ht hG, hc⟩, ht _ (hG _ hc).1, ok _ (by simp [va_wsS]), ⟨hd.1, hd.2.1⟩, fun sig h => ?_, ok _ (by simp [va_wsS]), ok _ (by simp [va_wsS])⟩
  have h2 := hd.2.2
  rw [h] at h2
  exact (Option.some.inj h2).symm
theorem vx_callSW (X : Stand p l e R s m args below meth c T locs cells slots) (hexec : p.tables.exec = Jvm.exec) {own : String} {index : Nat} {y : MethodName} {bytes : ByteArray} {maxL : Nat} {ret : Option FieldType} {hh : List (Nat × Nat × Nat × Nat)}
    (hown : s.vm.findClass own = some m.cls) (hlink : (Cond.methodLink own index y).before args s = true) (hstat : (Cond.static y).before args s = true) (hinit : (Cond.initialized y.cls).before args s = true)
    (hcode : (Cond.codeWith y bytes maxL ret hh).before args s = true) (hy : y.cls ≠ "java/lang/invoke/MethodHandle" ∧ y.cls ≠ "java/lang/invoke/VarHandle")
    {W9 : Nat} {Pre : Pt → Array Value → Prop} {Post : Pt → Array Value → Option Value → Pt → Prop} (hK : Back l R p e below s args y 3 W9 Pre Post)
    {g : JFrame} (hg : g.method = m) (hsize : g.locals.size = c.maxLocals) {argsL rest : List Value} (hlen : ∀ sig, parseMethodDescriptor y.desc = some sig → argsL.length = sig.parameters.length)
    (hstack : g.stack = argsL.reverse ++ rest) (hW : 2 * g.monitorRoom + (rest.map fun v => v.category).sum ≤ W9) (hdg : decode c.code g.pc = .ok (.invokestatic index, 3))
    (hpre : ∀ vm₁, s.WarmedH vm₁ → Pre ⟨T.setVm vm₁, locs, cells, slots⟩ argsL.toArray) :
    ∃ (v : Option Value) (vm₁ : Vm) (B : Pt), s.WarmedH vm₁ ∧ Stand p l e R s m args below meth c B.U B.locs B.cells B.slots ∧ Post ⟨T.setVm vm₁, locs, cells, slots⟩ argsL.toArray v B ∧
      ∀ target, Steps p.tables e below (B.U.setTop { g with pc := g.pc + 3, stack := v.toList ++ rest }) target → Steps p.tables e below (T.setTop g) target := by
  obtain ⟨mk, methM, cM, hnamed, hmethM, -, -, -, -, -, -, hsigM⟩ := Cond.codeWith_spec hcode
  have hstatic : methM.isStatic = true := Cond.static_spec hnamed hmethM hstat
  obtain ⟨kP, hkP, -⟩ := className_of_methodNamed hnamed
  have hinitP : kP.init = .initialized := Cond.initialized_spec (findClass_of_methodNamed hnamed) hkP hinit
  obtain ⟨vm₁, X₁, hstep₁⟩ := X.invokestatic hexec hown hlink hnamed hmethM hstatic hkP hinitP hy (g := g) hg (argsL := argsL) (rest := rest) (hlen _ hsigM) hstack hdg
  obtain ⟨v, B, X', hpost, hsteps⟩ := hK m meth c ⟨T.setVm vm₁, locs, cells, slots⟩ { g with stack := rest } (.invokestatic index) mk argsL.toArray X₁ hg hsize hdg hW (X₁.named hnamed) (hpre vm₁ X₁.warmed)
  exact ⟨v, vm₁, B, X₁.warmed, X', hpost, fun target h => hstep₁ _ fun acts => by rw [doInvoke_state]; exact hsteps.trans h⟩
theorem vx_runSW {y : MethodName} {bytes cc : ByteArray} {maxL nL mc ms n index : Nat} {ret : Option FieldType} {hh : List (Nat × Nat × Nat × Nat)} {ws : List Cond} {rm : Room} {Pc : Array Value → State → Prop} {Qc : Array Value → State → Outcome → State → Prop} {free : Addr → Prop} {Ts : List Cond} {own : String} {As rest : List Value} {g : JFrame}
    (S : CallFix p m c cc nL s args Ts own) (hM : Met l y ws rm Pc Qc mc ms free) (cw : vx_CSW R s args own index y bytes maxL ret hh ws rm mc ms n) (hp : PreS s H Pc As)
    (hg : g.method = m) (hn : As.length = n) (hsize : g.locals.size = nL) (hstack : g.stack = As.reverse ++ rest) (hW : 2 * g.monitorRoom + (rest.map fun v => v.category).sum ≤ 8) (hdg : decode cc g.pc = .ok (.invokestatic index, 3)) (hf : cells + mc ≤ R.cells ∧ slots + ms ≤ R.slots) :
    va_Run p l e R s m args below meth c H locs cells slots mc ms g rest (Qc As.toArray) (free) := by
  obtain ⟨⟨hrc, hrs, hfr, hlo, hws, hcw⟩, hcode, hini, hy, hlen, hl, hstt⟩ := cw
  have hK : Back l R p e below s args y 3 8 (PreOf R mc ms Pc) (PostOf Qc mc ms free) := va_backW (hh := hh) (bytes := bytes) (maxL := maxL) (ret := ret) hM hp.1 hrc hrs hfr hlo hws hcw (fun a' U hW => word_at hW (Or.inl (by first | rfl | simp [Cond.onTables, Cond.keeps, Cond.steady])) hini)
  obtain ⟨hx, hb, hml, ho, -⟩ := S
  intro T hT X
  obtain ⟨v, vm₁, ⟨U', l2, c2, s2⟩, hW₁, X', ⟨g', mk, t, L, e1, e2, hq, h1, hL, h2, h3⟩, st⟩ := vx_callSW X hx (hh := hh) (bytes := bytes) (maxL := maxL) (ret := ret) ho hl hstt hini hcode hy hK hg (hsize.trans hml.symm) (argsL := As) (rest := rest) (fun sig h => hn.trans (hlen sig h)) hstack hW (by rw [hb]; exact hdg)
    (fun vm₁ hW₁ => ⟨hf.1, hf.2, hp.2 (T.setVm vm₁) hT hW₁⟩)
  dsimp only [Pt.U, Pt.locs, Pt.cells, Pt.slots] at X' e1 e2 h1 h2 h3 st
  subst h1; subst h2; subst h3
  exact ⟨v, (T.setVm vm₁).calling g' mk As.toArray, t, U', L, hT, X', hL, e1, e2, hq, st⟩
/-- not caught here, past rows that name other classes: it goes on to the caller -/
theorem vx_outP {p : Program} {l : Launch} {e : Env} {R : Room} {s : State} {m : MethodId} {args : Array Value} {below : List Frame} {meth : Method} {c : Code} {H : Heap} {locs : List Loc} {cells slots : Nat} {free : Addr → Prop} {ls : Array Slot} {rest : List Value} {Qc : Array Value → State → Outcome → State → Prop} {XC : String → State → State → Prop}
    {pc : Nat} {own E : String} {ce : Cell} {q : Addr} {mc ms : Nat} (hown : s.vm.findClass own = some m.cls) (hlocks : meth.locks = false)
    (hpass : ∀ z ∈ c.exceptionTable.toList, covers z pc = false ∨ (z.catchType ≠ 0 ∧ ∃ nm : String, (Cond.classLink own z.catchType nm).before args s = true ∧ va_Nc E nm s)) (hcell : H[q]? = some ce) (hv : ce.vm = .none) (hcl : s.vm.findClass E = some ce.cls)
    (hx : ∀ t : State, t.heap = H → s.vm.Alike t.vm → XC E s t) (hf : ∀ z ∈ locs, free z.base) (hc : cells ≤ mc) (hs : slots ≤ ms) :
    vx_W p l e R s m args below meth c H locs cells slots (vx_MQ below Qc XC args s mc ms free) (F0 m pc ls rest) q := by
  intro T hT X
  have hpl : e.platform.magicAccessors = ({} : Platform).magicAccessors := by rw [X.admits.platform]
  obtain ⟨vm', hW', X', st⟩ := X.outThrough hlocks q (g := F0 m pc ls rest) rfl rfl rfl (cell := ce) (by rw [hT]; exact hcell) (by rw [hv]; rfl)
    (by obtain ⟨k9, h9, -⟩ := Vm.findClass_spec hcl; exact ⟨k9, h9⟩) (fun z hz => by
      rcases hpass z hz with h | ⟨hz0, nm, hl1, hn1⟩
      · exact Or.inl h
      · obtain ⟨c6, hc6, hcl6⟩ := Cond.classLink_spec hown hl1 e.platform hpl
        obtain ⟨a8, b8, h1, h2, h3⟩ := hn1
        cases Option.some.inj (h1.symm.trans hcl)
        cases Option.some.inj (h2.symm.trans hc6)
        exact Or.inr ⟨hz0, _, hcl6, h3⟩)
  obtain ⟨g₀, hfr⟩ := X'.frames_eq
  have hcell9 : ((T.setVm vm').setFrames (.throwing q :: below)).heap[q]? = some ce := by
    show T.heap[q]? = some ce
    rw [hT]; exact hcell
  have hend : Ended ((T.setVm vm').setFrames (.throwing q :: below)) below (.threw q) := State.frames_setFrames _ (State.cur_lt_of_frames hfr)
  refine ⟨(T.setVm vm').setFrames (.throwing q :: below), ?_, .threw q, X'.here.running, hend, Or.inr ⟨q, rfl, E, ce, locs, hx _ hT (X'.ends _).1.alike, hcell9, hv, hcl, (X'.ends _).1, (X'.ends _).2.mono hc hs, hf⟩⟩
  rw [X.pushThrowing_eq]
  exact st
/-- a thing of a world lies in the heap -/
theorem vx_lt {D : va_G} {cl : List vw_C} {ws : va_W} {H1 : Heap} (h : va_P D cl ws H1) {k : Nat} {q : Nat × va_E} (hk : ws[k]? = some q) : q.1 < H1.size := (h k q hk).lt
end VXS
/-! ===== END ===== -/
/-! ===== BEGIN methods with a table of their own: called by a name, returning or throwing ===== -/
section VXH
/-! vx_backW, vx_callVX, vx_callSX, vx_callVW, vx_runVW, vx_runVX, vx_runSX, vx_ofWH follow the same proofs as their sisters above (Free/Laws.lean, Shelf42/LK1.lean); vx_outP calls Shelf42/NT130.lean (outThrough). -/
section
variable {l : Launch} {R : Room} {p : Program} {e : Env} {below : List Frame} {s : State} {sargs : Array Value} {y : MethodName} {len W9 : Nat}
theorem vx_backW {ws : List Cond} {rm : Room} {Pc : Array Value → State → Prop} {Qc : Array Value → State → Outcome → State → Prop} {XC : String → State → State → Prop} {mc ms : Nat} {free : Addr → Prop} {bytes : ByteArray} {maxL : Nat} {ret : Option FieldType} {hh : List (Nat × Nat × Nat × Nat)}
    (hM : vx_Met l y ws rm Pc Qc XC mc ms free) (hblind : FrameBlind Pc) (hrc : rm.cells = mc) (hrs : rm.slots = ms)
    (hframes : rm.frames + 1 ≤ R.frames) (hlocals : W9 + (maxL + 11) + rm.locals ≤ R.locals)
    (hws : ∀ w ∈ ws, ∀ a' U, s.WarmedH U.vm → w.before a' U = true) (hcode : Cond.codeWith y bytes maxL ret hh ∈ ws) (hinit : ∀ a' U, s.WarmedH U.vm → (Cond.initialized y.cls).before a' U = true) :
    vx_Back l R p e below s sargs y len W9 (PreOf R mc ms Pc) (PostOf Qc mc ms free) (vx_Post XC mc ms free) := by
  intro m meth c A g ig mk a X hg hsize hdg hW hn hp
  have h1 : (headSpec ws rm).pre.before a A.U = true := atoms_intro fun w hw => hws w hw _ _ X.warmed
  have h2 : (Cond.codeWith y bytes maxL ret hh).before a A.U = true := hws _ hcode _ _ X.warmed
  have h3 : (Cond.initialized y.cls).before a A.U = true := hinit _ _ X.warmed
  have h4 : A.cells + (headSpec ws rm).room.cells ≤ R.cells := by rw [show (headSpec ws rm).room.cells = mc from hrc]; exact hp.1
  have h5 : A.slots + (headSpec ws rm).room.slots ≤ R.slots := by rw [show (headSpec ws rm).room.slots = ms from hrs]; exact hp.2.1
  have hPc : Pc a (A.U.calling g mk a) := hblind _ _ _ _ hp.2.2
  obtain ⟨U, Ls, c0, s0⟩ := A
  dsimp only [Pt.U, Pt.locs, Pt.cells, Pt.slots] at h1 h2 h3 h4 h5 X hn hPc ⊢
  obtain ⟨m9, methY, cY, hn9, hmY, hcY, -, hlY, -⟩ := Cond.codeWith_spec h2
  cases Option.some.inj (hn9.symm.trans hn)
  obtain ⟨kY, hkY, -⟩ := className_of_methodNamed hn
  have hinitY : kY.init = .initialized := Cond.initialized_spec (findClass_of_methodNamed hn) hkY h3
  have h : At U g.method c below := by rw [hg]; exact X.here
  have hlocals9 : W9 + (maxL + 11) + (headSpec ws rm).room.locals ≤ R.locals := hlocals
  have happ : (headSpec ws rm).appliesLoose y e.platform (U.calling g mk a) = true :=
    Spec.appliesLoose_calling (g := g) h hdg hn hkY hinitY
      (X.room_calling (g := g) (R' := (headSpec ws rm).room) hsize hmY hcY hframes (by rw [hlY]; omega) h4 h5) h1
  obtain ⟨mid, hmid⟩ := h.above
  have hfr : (U.setTop g).frames = (.java g :: mid) ++ below := by rw [State.frames_setTop' g h.top, hmid]; rfl
  obtain ⟨o, s₂, hsteps, -, hend, hq⟩ := Steps.callFree hM p X.admits X.cas X.clock (acts := []) hfr happ hPc trivial
  have hq' : vx_Q Qc XC mc ms free a (U.calling g mk a) o s₂ := hq
  rw [State.frames_setTop' g h.top] at hend
  obtain ⟨g₀, hg0⟩ := Option.isSome_iff_exists.mp h.top
  obtain ⟨r, hr⟩ := State.topJava?_eq_some.mp hg0
  have hr' : (({ U with heap := s₂.heap, slotsUsed := s₂.slotsUsed } : State).setVm s₂.vm).frames = .java g₀ :: r := hr
  rcases hq' with ⟨hqc, L, hfe, hL⟩ | ⟨q, rfl, E, ce, L, hx, hce, hcv, hcl, hW₂, hsm, hL⟩
  · obtain ⟨⟨v, rfl⟩, hW₂, e2, q2, q3, q4, q5, q6⟩ := id hfe
    have e3 : s₂ = ({ (U.calling g mk a).setFrames s₂.frames with heap := s₂.heap, slotsUsed := s₂.slotsUsed } : State).setVm s₂.vm := by
      have : s₂ = ({ s₂ with vm := (U.calling g mk a).vm } : State).setVm s₂.vm := rfl
      rw [e2] at this
      exact this
    obtain ⟨c₂, i₂, len₂, hc₂, hd₂, hf₂⟩ := hend
    have hW' : U.WarmedH s₂.vm := hW₂
    have hcc : c₂ = c := by
      have h1 : s₂.code? g.method = U.code? g.method := by
        rw [State.code?_eq, State.code?_eq, hW'.alike.method?]
      exact Option.some.inj (hc₂.symm.trans (h1.trans h.code))
    subst hcc
    have hlen : len₂ = len := by rw [hdg] at hd₂; cases hd₂; rfl
    subst hlen
    have hs₂ : s₂ = (({ U with heap := s₂.heap, slotsUsed := s₂.slotsUsed } : State).setVm s₂.vm).setTop { g with pc := g.pc + len₂, stack := v.toList ++ g.stack } := by
      refine e3.trans ?_
      rw [hf₂, State.calling_eq h.top, State.setFrames_setFrames, State.setTop_of_frames _ hr', hr]
      rfl
    have hsame : U.sameButNew ({ U with heap := s₂.heap, slotsUsed := s₂.slotsUsed } : State) L mc ms := by
      refine ⟨?_, q2, q3, q4, q5, q6⟩
      obtain ⟨t, ht, -⟩ := State.frames_cons hr
      show ({ U with heap := s₂.heap, slotsUsed := s₂.slotsUsed } : State) = { U.setFrames U.frames with heap := s₂.heap, slotsUsed := s₂.slotsUsed }
      rw [State.setFrames_self ht]
    subst hg
    refine Or.inl ⟨v, ⟨(({ U with heap := s₂.heap, slotsUsed := s₂.slotsUsed } : State).setVm s₂.vm), Ls ++ L, c0 + mc, s0 + ms⟩,
      ⟨X.admits, X.cas, X.clock, X.frames, X.room, X.hears, X.method, X.code, (X.here.setHeapUsed s₂.heap s₂.slotsUsed).setVm hW'.alike, X.tail, State.WarmedH.trans X.warmed hW', X.limits, X.bytes, X.same.trans (hsame.setVm s.vm)⟩,
      ⟨g, mk, s₂, L, rfl, rfl, hqc, rfl, hL, rfl, rfl⟩, ?_⟩
    show Steps p.tables e below _ ((({ U with heap := s₂.heap, slotsUsed := s₂.slotsUsed } : State).setVm s₂.vm).setTop { g with pc := g.pc + len₂, stack := v.toList ++ g.stack })
    rw [← hs₂]
    exact hsteps
  · obtain ⟨e2, q2, q3, q4, q5, q6⟩ := id hsm
    have e3 : s₂ = ({ (U.calling g mk a).setFrames s₂.frames with heap := s₂.heap, slotsUsed := s₂.slotsUsed } : State).setVm s₂.vm := by
      have : s₂ = ({ s₂ with vm := (U.calling g mk a).vm } : State).setVm s₂.vm := rfl
      rw [e2] at this
      exact this
    have hf₂ : s₂.frames = .throwing q :: .java g :: U.frames.tail := hend
    have hW' : U.WarmedH s₂.vm := hW₂
    have hs₂ : s₂ = ((({ U with heap := s₂.heap, slotsUsed := s₂.slotsUsed } : State).setVm s₂.vm).setTop g).pushFrame (.throwing q) := by
      refine e3.trans ?_
      rw [hf₂, State.calling_eq h.top, State.setFrames_setFrames, State.pushFrame, State.frames_setTop _ hr', State.setTop_of_frames _ hr', State.setFrames_setFrames, hr]
      rfl
    have hsame : U.sameButNew ({ U with heap := s₂.heap, slotsUsed := s₂.slotsUsed } : State) L mc ms := by
      refine ⟨?_, q2, q3, q4, q5, q6⟩
      obtain ⟨t, ht, -⟩ := State.frames_cons hr
      show ({ U with heap := s₂.heap, slotsUsed := s₂.slotsUsed } : State) = { U.setFrames U.frames with heap := s₂.heap, slotsUsed := s₂.slotsUsed }
      rw [State.setFrames_self ht]
    subst hg
    refine Or.inr ⟨q, ⟨(({ U with heap := s₂.heap, slotsUsed := s₂.slotsUsed } : State).setVm s₂.vm), Ls ++ L, c0 + mc, s0 + ms⟩,
      ⟨X.admits, X.cas, X.clock, X.frames, X.room, X.hears, X.method, X.code, (X.here.setHeapUsed s₂.heap s₂.slotsUsed).setVm hW'.alike, X.tail, State.WarmedH.trans X.warmed hW', X.limits, X.bytes, X.same.trans (hsame.setVm s.vm)⟩,
      ⟨g, mk, s₂, L, E, ce, rfl, rfl, hx, hce, hcv, hcl, rfl, hL, rfl, rfl⟩, ?_⟩
    show Steps p.tables e below _ (((({ U with heap := s₂.heap, slotsUsed := s₂.slotsUsed } : State).setVm s₂.vm).setTop g).pushFrame (.throwing q))
    rw [← hs₂]
    exact hsteps
end
variable {p : Program} {l : Launch} {e : Env} {R : Room} {s : State} {m : MethodId} {args : Array Value} {below : List Frame} {meth : Method} {c : Code} {T : State} {H : Heap} {locs : List Loc} {cells slots : Nat}
theorem vx_callVX (X : Stand p l e R s m args below meth c T locs cells slots) (hexec : p.tables.exec = Jvm.exec) {own C : String} {index : Nat} {y : MethodName} {bytes : ByteArray} {maxL : Nat} {ret : Option FieldType} {hh : List (Nat × Nat × Nat × Nat)}
    (hown : s.vm.findClass own = some m.cls) (hlink : (Cond.methodLink own index y).before args s = true) (hinst : (Cond.instanceMethod y).before args s = true) (hsel : (Cond.selects C y y).before args s = true)
    (hcode : (Cond.codeWith y bytes maxL ret hh).before args s = true) (hy : y.cls ≠ "java/lang/invoke/MethodHandle" ∧ y.cls ≠ "java/lang/invoke/VarHandle")
    {W9 : Nat} {Pre : Pt → Array Value → Prop} {Post : Pt → Array Value → Option Value → Pt → Prop} {PostX : Pt → Array Value → Addr → Pt → Prop} (hK : vx_Back l R p e below s args y 3 W9 Pre Post PostX)
    {b : Addr} {cellB : Cell} (hcell : T.heap[b]? = some cellB) (hobj : cellB.vm.isStatics = false) (hcls : s.vm.findClass C = some cellB.cls)
    {g : JFrame} (hg : g.method = m) (hsize : g.locals.size = c.maxLocals) {argsL rest : List Value} (hlen : ∀ sig, parseMethodDescriptor y.desc = some sig → argsL.length = sig.parameters.length)
    (hstack : g.stack = argsL.reverse ++ .ref b :: rest) (hW : 2 * g.monitorRoom + (rest.map fun v => v.category).sum ≤ W9) (hdg : decode c.code g.pc = .ok (.invokevirtual index, 3))
    (hpre : ∀ vm₁, s.WarmedH vm₁ → Pre ⟨T.setVm vm₁, locs, cells, slots⟩ (Value.ref b :: argsL).toArray) :
    (∃ (v : Option Value) (vm₁ : Vm) (B : Pt), s.WarmedH vm₁ ∧ Stand p l e R s m args below meth c B.U B.locs B.cells B.slots ∧ Post ⟨T.setVm vm₁, locs, cells, slots⟩ (Value.ref b :: argsL).toArray v B ∧
      ∀ target, Steps p.tables e below (B.U.setTop { g with pc := g.pc + 3, stack := v.toList ++ rest }) target → Steps p.tables e below (T.setTop g) target) ∨
    (∃ (q : Addr) (vm₁ : Vm) (B : Pt), s.WarmedH vm₁ ∧ Stand p l e R s m args below meth c B.U B.locs B.cells B.slots ∧ PostX ⟨T.setVm vm₁, locs, cells, slots⟩ (Value.ref b :: argsL).toArray q B ∧
      Steps p.tables e below (T.setTop g) ((B.U.setTop { g with stack := rest }).pushFrame (.throwing q))) := by
  obtain ⟨mk, methM, hnamed, hmethM, hstM, habM⟩ := Cond.instanceMethod_spec hinst
  obtain ⟨m8, methM', cM, hn8, hmethM', -, -, -, -, -, -, hsigM⟩ := Cond.codeWith_spec hcode
  cases Option.some.inj (hn8.symm.trans hnamed)
  cases hmethM.symm.trans hmethM'
  obtain ⟨c2, r2, m2, q1, q2, q3, q4, kP, hkP, hkPi⟩ := Cond.selects_spec hsel
  cases hcls.symm.trans q1
  cases (State.methodFound?_of_named hnamed hy).symm.trans q2
  cases hnamed.symm.trans q3
  have hselP : selectMethod e.platform s.vm cellB.cls mk = .method mk := by rw [Launch.admits_selectMethod X.admits]; exact q4
  obtain ⟨vm₁, X₁, hstep₁⟩ := X.invokevirtual hexec hown hlink hnamed hmethM hstM hkP hkPi hy (a := b) (cell := cellB) hcell
    (fun z h => by rw [h] at hobj; cases hobj) hselP hmethM habM hkP hkPi (g := g) hg (argsL := argsL) (rest := rest) (hlen _ hsigM) hstack hdg
  rcases hK m meth c ⟨T.setVm vm₁, locs, cells, slots⟩ { g with stack := rest } (.invokevirtual index) mk (Value.ref b :: argsL).toArray X₁ hg hsize hdg hW (X₁.named hnamed) (hpre vm₁ X₁.warmed) with ⟨v, B, X', hpost, hsteps⟩ | ⟨q, B, X', hpost, hsteps⟩
  · exact Or.inl ⟨v, vm₁, B, X₁.warmed, X', hpost, fun target h => hstep₁ _ fun acts => by rw [doInvoke_state]; exact hsteps.trans h⟩
  · exact Or.inr ⟨q, vm₁, B, X₁.warmed, X', hpost, hstep₁ _ fun acts => by rw [doInvoke_state]; exact hsteps⟩
theorem vx_callSX (X : Stand p l e R s m args below meth c T locs cells slots) (hexec : p.tables.exec = Jvm.exec) {own : String} {index : Nat} {y : MethodName} {bytes : ByteArray} {maxL : Nat} {ret : Option FieldType} {hh : List (Nat × Nat × Nat × Nat)}
    (hown : s.vm.findClass own = some m.cls) (hlink : (Cond.methodLink own index y).before args s = true) (hstat : (Cond.static y).before args s = true) (hinit : (Cond.initialized y.cls).before args s = true)
    (hcode : (Cond.codeWith y bytes maxL ret hh).before args s = true) (hy : y.cls ≠ "java/lang/invoke/MethodHandle" ∧ y.cls ≠ "java/lang/invoke/VarHandle")
    {W9 : Nat} {Pre : Pt → Array Value → Prop} {Post : Pt → Array Value → Option Value → Pt → Prop} {PostX : Pt → Array Value → Addr → Pt → Prop} (hK : vx_Back l R p e below s args y 3 W9 Pre Post PostX)
    {g : JFrame} (hg : g.method = m) (hsize : g.locals.size = c.maxLocals) {argsL rest : List Value} (hlen : ∀ sig, parseMethodDescriptor y.desc = some sig → argsL.length = sig.parameters.length)
    (hstack : g.stack = argsL.reverse ++ rest) (hW : 2 * g.monitorRoom + (rest.map fun v => v.category).sum ≤ W9) (hdg : decode c.code g.pc = .ok (.invokestatic index, 3))
    (hpre : ∀ vm₁, s.WarmedH vm₁ → Pre ⟨T.setVm vm₁, locs, cells, slots⟩ argsL.toArray) :
    (∃ (v : Option Value) (vm₁ : Vm) (B : Pt), s.WarmedH vm₁ ∧ Stand p l e R s m args below meth c B.U B.locs B.cells B.slots ∧ Post ⟨T.setVm vm₁, locs, cells, slots⟩ argsL.toArray v B ∧
      ∀ target, Steps p.tables e below (B.U.setTop { g with pc := g.pc + 3, stack := v.toList ++ rest }) target → Steps p.tables e below (T.setTop g) target) ∨
    (∃ (q : Addr) (vm₁ : Vm) (B : Pt), s.WarmedH vm₁ ∧ Stand p l e R s m args below meth c B.U B.locs B.cells B.slots ∧ PostX ⟨T.setVm vm₁, locs, cells, slots⟩ argsL.toArray q B ∧
      Steps p.tables e below (T.setTop g) ((B.U.setTop { g with stack := rest }).pushFrame (.throwing q))) := by
  obtain ⟨mk, methM, cM, hnamed, hmethM, -, -, -, -, -, -, hsigM⟩ := Cond.codeWith_spec hcode
  have hstatic : methM.isStatic = true := Cond.static_spec hnamed hmethM hstat
  obtain ⟨kP, hkP, -⟩ := className_of_methodNamed hnamed
  have hinitP : kP.init = .initialized := Cond.initialized_spec (findClass_of_methodNamed hnamed) hkP hinit
  obtain ⟨vm₁, X₁, hstep₁⟩ := X.invokestatic hexec hown hlink hnamed hmethM hstatic hkP hinitP hy (g := g) hg (argsL := argsL) (rest := rest) (hlen _ hsigM) hstack hdg
  rcases hK m meth c ⟨T.setVm vm₁, locs, cells, slots⟩ { g with stack := rest } (.invokestatic index) mk argsL.toArray X₁ hg hsize hdg hW (X₁.named hnamed) (hpre vm₁ X₁.warmed) with ⟨v, B, X', hpost, hsteps⟩ | ⟨q, B, X', hpost, hsteps⟩
  · exact Or.inl ⟨v, vm₁, B, X₁.warmed, X', hpost, fun target h => hstep₁ _ fun acts => by rw [doInvoke_state]; exact hsteps.trans h⟩
  · exact Or.inr ⟨q, vm₁, B, X₁.warmed, X', hpost, hstep₁ _ fun acts => by rw [doInvoke_state]; exact hsteps⟩
theorem vx_callVW (X : Stand p l e R s m args below meth c T locs cells slots) (hexec : p.tables.exec = Jvm.exec) {own C : String} {index : Nat} {y : MethodName} {bytes : ByteArray} {maxL : Nat} {ret : Option FieldType} {hh : List (Nat × Nat × Nat × Nat)}
    (hown : s.vm.findClass own = some m.cls) (hlink : (Cond.methodLink own index y).before args s = true) (hinst : (Cond.instanceMethod y).before args s = true) (hsel : (Cond.selects C y y).before args s = true)
    (hcode : (Cond.codeWith y bytes maxL ret hh).before args s = true) (hy : y.cls ≠ "java/lang/invoke/MethodHandle" ∧ y.cls ≠ "java/lang/invoke/VarHandle")
    {W9 : Nat} {Pre : Pt → Array Value → Prop} {Post : Pt → Array Value → Option Value → Pt → Prop} (hK : Back l R p e below s args y 3 W9 Pre Post)
    {b : Addr} {cellB : Cell} (hcell : T.heap[b]? = some cellB) (hobj : cellB.vm.isStatics = false) (hcls : s.vm.findClass C = some cellB.cls)
    {g : JFrame} (hg : g.method = m) (hsize : g.locals.size = c.maxLocals) {argsL rest : List Value} (hlen : ∀ sig, parseMethodDescriptor y.desc = some sig → argsL.length = sig.parameters.length)
    (hstack : g.stack = argsL.reverse ++ .ref b :: rest) (hW : 2 * g.monitorRoom + (rest.map fun v => v.category).sum ≤ W9) (hdg : decode c.code g.pc = .ok (.invokevirtual index, 3))
    (hpre : ∀ vm₁, s.WarmedH vm₁ → Pre ⟨T.setVm vm₁, locs, cells, slots⟩ (Value.ref b :: argsL).toArray) :
    ∃ (v : Option Value) (vm₁ : Vm) (B : Pt), s.WarmedH vm₁ ∧ Stand p l e R s m args below meth c B.U B.locs B.cells B.slots ∧ Post ⟨T.setVm vm₁, locs, cells, slots⟩ (Value.ref b :: argsL).toArray v B ∧
      ∀ target, Steps p.tables e below (B.U.setTop { g with pc := g.pc + 3, stack := v.toList ++ rest }) target → Steps p.tables e below (T.setTop g) target := by
  obtain ⟨mk, methM, hnamed, hmethM, hstM, habM⟩ := Cond.instanceMethod_spec hinst
  obtain ⟨m8, methM', cM, hn8, hmethM', -, -, -, -, -, -, hsigM⟩ := Cond.codeWith_spec hcode
  cases Option.some.inj (hn8.symm.trans hnamed)
  cases hmethM.symm.trans hmethM'
  obtain ⟨c2, r2, m2, q1, q2, q3, q4, kP, hkP, hkPi⟩ := Cond.selects_spec hsel
  cases hcls.symm.trans q1
  cases (State.methodFound?_of_named hnamed hy).symm.trans q2
  cases hnamed.symm.trans q3
  have hselP : selectMethod e.platform s.vm cellB.cls mk = .method mk := by rw [Launch.admits_selectMethod X.admits]; exact q4
  obtain ⟨vm₁, X₁, hstep₁⟩ := X.invokevirtual hexec hown hlink hnamed hmethM hstM hkP hkPi hy (a := b) (cell := cellB) hcell
    (fun z h => by rw [h] at hobj; cases hobj) hselP hmethM habM hkP hkPi (g := g) hg (argsL := argsL) (rest := rest) (hlen _ hsigM) hstack hdg
  obtain ⟨v, B, X', hpost, hsteps⟩ := hK m meth c ⟨T.setVm vm₁, locs, cells, slots⟩ { g with stack := rest } (.invokevirtual index) mk (Value.ref b :: argsL).toArray X₁ hg hsize hdg hW (X₁.named hnamed) (hpre vm₁ X₁.warmed)
  exact ⟨v, vm₁, B, X₁.warmed, X', hpost, fun target h => hstep₁ _ fun acts => by rw [doInvoke_state]; exact hsteps.trans h⟩
abbrev vx_CVW (R : Room) (s : State) (args : Array Value) (own C : String) (index : Nat) (y : MethodName) (bytes : ByteArray) (maxL : Nat) (ret : Option FieldType) (hh : List (Nat × Nat × Nat × Nat)) (ws : List Cond) (rm : Room) (mc ms n : Nat) : Prop :=
  (rm.cells = mc ∧ rm.slots = ms ∧ rm.frames + 1 ≤ R.frames ∧ 8 + (maxL + 11) + rm.locals ≤ R.locals ∧ (∀ w ∈ ws, ∀ (a' : Array Value) (U : State), s.WarmedH U.vm → w.before a' U = true) ∧ Cond.codeWith y bytes maxL ret hh ∈ ws) ∧
  (Cond.codeWith y bytes maxL ret hh).before args s = true ∧ (Cond.initialized y.cls).before args s = true ∧ (y.cls ≠ "java/lang/invoke/MethodHandle" ∧ y.cls ≠ "java/lang/invoke/VarHandle") ∧
  (∀ sig, parseMethodDescriptor y.desc = some sig → n = sig.parameters.length) ∧ (Cond.methodLink own index y).before args s = true ∧ (Cond.instanceMethod y).before args s = true ∧ (Cond.selects C y y).before args s = true
theorem vx_cwVW {own C : String} {index maxL mc ms : Nat} {y : MethodName} {bytes : ByteArray} {ret : Option FieldType} {hh : List (Nat × Nat × Nat × Nat)} {Ts ws ws' : List Cond} {rm : Room} (n : Nat) (ht : ∀ w ∈ Ts, w.before args s = true) (hT : GoodIn Ts (wsV own index C y ws)) (hw : ws = Cond.codeWith y bytes maxL ret hh :: ws') (hrc : rm.cells = mc) (hrs : rm.slots = ms)
    (hd : y.cls = C ∧ y.cls ≠ "java/lang/invoke/MethodHandle" ∧ y.cls ≠ "java/lang/invoke/VarHandle" ∧ (parseMethodDescriptor y.desc).map (fun d => d.parameters.length) = some n) (hR : rm.frames + 1 ≤ R.frames ∧ 8 + (maxL + 11) + rm.locals ≤ R.locals) :
    vx_CVW R s args own C index y bytes maxL ret hh ws rm mc ms n := by
  obtain ⟨hC, hd⟩ := hd
  subst hC
  have ok : ∀ w ∈ wsV own index y.cls y ws, w.before args s = true := fun w h => ht w (hT w h).1
  have hG : GoodIn Ts ws := fun w h => hT w (by unfold wsV; exact List.mem_append_right _ h)
  have hc : Cond.codeWith y bytes maxL ret hh ∈ ws := by rw [hw]; exact List.mem_cons_self
  refine ⟨⟨hrc, hrs, hR.1, hR.2, pay_in ht hG, hc⟩, ht _ (hG _ hc).1, ok _ (by simp [wsV]), ⟨hd.1, hd.2.1⟩, fun sig h => ?_, ok _ (by simp [wsV]), ok _ (by simp [wsV]), ok _ (by simp [wsV])⟩
  have h2 := hd.2.2
  rw [h] at h2
  exact (Option.some.inj h2).symm
theorem vx_runVW {y : MethodName} {bytes cc : ByteArray} {maxL nL mc ms n index : Nat} {ret : Option FieldType} {hh : List (Nat × Nat × Nat × Nat)} {ws : List Cond} {rm : Room} {Pc : Array Value → State → Prop} {Qc : Array Value → State → Outcome → State → Prop} {free : Addr → Prop} {Ts : List Cond} {own C : String} {b : Addr} {As rest : List Value} {g : JFrame}
    (S : CallFix p m c cc nL s args Ts own) (hM : Met l y ws rm Pc Qc mc ms free) (cw : vx_CVW R s args own C index y bytes maxL ret hh ws rm mc ms n) (hp : PreV s H C b Pc As)
    (hg : g.method = m) (hn : As.length = n) (hsize : g.locals.size = nL) (hstack : g.stack = As.reverse ++ .ref b :: rest) (hW : 2 * g.monitorRoom + (rest.map fun v => v.category).sum ≤ 8) (hdg : decode cc g.pc = .ok (.invokevirtual index, 3)) (hf : cells + mc ≤ R.cells ∧ slots + ms ≤ R.slots) :
    va_Run p l e R s m args below meth c H locs cells slots mc ms g rest (Qc (Value.ref b :: As).toArray) free := by
  obtain ⟨⟨hrc, hrs, hfr, hlo, hws, hcw⟩, hcode, hini, hy, hlen, hl, hin, hse⟩ := cw
  have hK : Back l R p e below s args y 3 8 (PreOf R mc ms Pc) (PostOf Qc mc ms free) := va_backW (hh := hh) (bytes := bytes) (maxL := maxL) (ret := ret) hM hp.1 hrc hrs hfr hlo hws hcw (fun a' U hW => word_at hW (Or.inl (by first | rfl | simp [Cond.onTables, Cond.keeps, Cond.steady])) hini)
  obtain ⟨hx, hb, hml, ho, -⟩ := S
  obtain ⟨-, ⟨cellB, hcB, hoB, hclB⟩, hPc⟩ := hp
  intro T hT X
  obtain ⟨v, vm₁, ⟨U', l2, c2, s2⟩, hW₁, X', ⟨g', mk, t, L, e1, e2, hq, h1, hL, h2, h3⟩, st⟩ := vx_callVW X hx (C := C) (hh := hh) (bytes := bytes) (maxL := maxL) (ret := ret) ho hl hin hse hcode hy hK (by rw [hT]; exact hcB) hoB hclB hg (hsize.trans hml.symm) (argsL := As) (rest := rest) (fun sig h => hn.trans (hlen sig h)) hstack hW (by rw [hb]; exact hdg)
    (fun vm₁ hW₁ => ⟨hf.1, hf.2, hPc (T.setVm vm₁) hT hW₁⟩)
  dsimp only [Pt.U, Pt.locs, Pt.cells, Pt.slots] at X' e1 e2 h1 h2 h3 st
  subst h1; subst h2; subst h3
  exact ⟨v, (T.setVm vm₁).calling g' mk (Value.ref b :: As).toArray, t, U', L, hT, X', hL, e1, e2, hq, st⟩
section
variable {y : MethodName} {bytes cc : ByteArray} {maxL nL mc ms n index : Nat} {ret : Option FieldType} {ws : List Cond} {rm : Room} {Pc : Array Value → State → Prop} {Qc : Array Value → State → Outcome → State → Prop} {XC : String → State → State → Prop} {free : Addr → Prop} {Ts : List Cond} {own C : String} {b : Addr} {As rest : List Value} {g : JFrame}
theorem vx_runVX {hh : List (Nat × Nat × Nat × Nat)} (S : CallFix p m c cc nL s args Ts own) (hM : vx_Met l y ws rm Pc Qc XC mc ms free) (cw : vx_CVW R s args own C index y bytes maxL ret hh ws rm mc ms n) (hp : PreV s H C b Pc As)
    (hg : g.method = m) (hn : As.length = n) (hsize : g.locals.size = nL) (hstack : g.stack = As.reverse ++ .ref b :: rest) (hW : 2 * g.monitorRoom + (rest.map fun v => v.category).sum ≤ 8) (hdg : decode cc g.pc = .ok (.invokevirtual index, 3)) (hf : cells + mc ≤ R.cells ∧ slots + ms ≤ R.slots) :
    vx_Run p l e R s m args below meth c H locs cells slots mc ms g rest (Qc (Value.ref b :: As).toArray) XC free := by
  obtain ⟨⟨hrc, hrs, hfr, hlo, hws, hcw⟩, hcode, hini, hy, hlen, hl, hin, hse⟩ := cw
  have hK : vx_Back l R p e below s args y 3 8 (PreOf R mc ms Pc) (PostOf Qc mc ms free) (vx_Post XC mc ms free) := vx_backW (hh := hh) (bytes := bytes) (maxL := maxL) (ret := ret) hM hp.1 hrc hrs hfr hlo hws hcw (fun a' U hW => word_at hW (Or.inl (by first | rfl | simp [Cond.onTables, Cond.keeps, Cond.steady])) hini)
  obtain ⟨hx, hb, hml, ho, -⟩ := S
  obtain ⟨-, ⟨cellB, hcB, hoB, hclB⟩, hPc⟩ := hp
  intro T hT X
  rcases vx_callVX X hx (C := C) (hh := hh) (bytes := bytes) (maxL := maxL) (ret := ret) ho hl hin hse hcode hy hK (by rw [hT]; exact hcB) hoB hclB hg (hsize.trans hml.symm) (argsL := As) (rest := rest) (fun sig h => hn.trans (hlen sig h)) hstack hW (by rw [hb]; exact hdg)
    (fun vm₁ hW₁ => ⟨hf.1, hf.2, hPc (T.setVm vm₁) hT hW₁⟩) with ⟨v, vm₁, ⟨U', l2, c2, s2⟩, hW₁, X', ⟨g', mk, t, L, e1, e2, hq, h1, hL, h2, h3⟩, st⟩ | ⟨q, vm₁, ⟨U', l2, c2, s2⟩, hW₁, X', ⟨g', mk, t, L, E, ce, e1, e2, hq, hce, hcv, hcl, h1, hL, h2, h3⟩, st⟩
  · dsimp only [Pt.U, Pt.locs, Pt.cells, Pt.slots] at X' e1 e2 h1 h2 h3 st
    subst h1; subst h2; subst h3
    exact Or.inl ⟨v, (T.setVm vm₁).calling g' mk (Value.ref b :: As).toArray, t, U', L, hT, X', hL, e1, e2, hq, st⟩
  · dsimp only [Pt.U, Pt.locs, Pt.cells, Pt.slots] at X' e1 e2 h1 h2 h3 st hcl
    subst h1; subst h2; subst h3
    exact Or.inr ⟨q, (T.setVm vm₁).calling g' mk (Value.ref b :: As).toArray, t, U', L, E, ce, hT, X', hL, e1, e2, hq, hce, hcv, vx_cls hW₁ hcl, st⟩
theorem vx_runSX {hh : List (Nat × Nat × Nat × Nat)} (S : CallFix p m c cc nL s args Ts own) (hM : vx_Met l y ws rm Pc Qc XC mc ms free) (cw : vx_CSW R s args own index y bytes maxL ret hh ws rm mc ms n) (hp : PreS s H Pc As)
    (hg : g.method = m) (hn : As.length = n) (hsize : g.locals.size = nL) (hstack : g.stack = As.reverse ++ rest) (hW : 2 * g.monitorRoom + (rest.map fun v => v.category).sum ≤ 8) (hdg : decode cc g.pc = .ok (.invokestatic index, 3)) (hf : cells + mc ≤ R.cells ∧ slots + ms ≤ R.slots) :
    vx_Run p l e R s m args below meth c H locs cells slots mc ms g rest (Qc As.toArray) XC free := by
  obtain ⟨⟨hrc, hrs, hfr, hlo, hws, hcw⟩, hcode, hini, hy, hlen, hl, hstt⟩ := cw
  have hK : vx_Back l R p e below s args y 3 8 (PreOf R mc ms Pc) (PostOf Qc mc ms free) (vx_Post XC mc ms free) := vx_backW (hh := hh) (bytes := bytes) (maxL := maxL) (ret := ret) hM hp.1 hrc hrs hfr hlo hws hcw (fun a' U hW => word_at hW (Or.inl (by first | rfl | simp [Cond.onTables, Cond.keeps, Cond.steady])) hini)
  obtain ⟨hx, hb, hml, ho, -⟩ := S
  intro T hT X
  rcases vx_callSX X hx (hh := hh) (bytes := bytes) (maxL := maxL) (ret := ret) ho hl hstt hini hcode hy hK hg (hsize.trans hml.symm) (argsL := As) (rest := rest) (fun sig h => hn.trans (hlen sig h)) hstack hW (by rw [hb]; exact hdg)
    (fun vm₁ hW₁ => ⟨hf.1, hf.2, hp.2 (T.setVm vm₁) hT hW₁⟩) with ⟨v, vm₁, ⟨U', l2, c2, s2⟩, hW₁, X', ⟨g', mk, t, L, e1, e2, hq, h1, hL, h2, h3⟩, st⟩ | ⟨q, vm₁, ⟨U', l2, c2, s2⟩, hW₁, X', ⟨g', mk, t, L, E, ce, e1, e2, hq, hce, hcv, hcl, h1, hL, h2, h3⟩, st⟩
  · dsimp only [Pt.U, Pt.locs, Pt.cells, Pt.slots] at X' e1 e2 h1 h2 h3 st
    subst h1; subst h2; subst h3
    exact Or.inl ⟨v, (T.setVm vm₁).calling g' mk As.toArray, t, U', L, hT, X', hL, e1, e2, hq, st⟩
  · dsimp only [Pt.U, Pt.locs, Pt.cells, Pt.slots] at X' e1 e2 h1 h2 h3 st hcl
    subst h1; subst h2; subst h3
    exact Or.inr ⟨q, (T.setVm vm₁).calling g' mk As.toArray, t, U', L, E, ce, hT, X', hL, e1, e2, hq, hce, hcv, vx_cls hW₁ hcl, st⟩
end
end VXH
theorem vx_ofWH {l : Launch} {y : MethodName} {ws ws' : List Cond} {rm : Room} {Pc : Array Value → State → Prop} {Qc : Array Value → State → Outcome → State → Prop} {XC : String → State → State → Prop} {mc ms : Nat} {free : Addr → Prop} {cc : ByteArray} {maxL : Nat} {ret : Option FieldType} {hh : List (Nat × Nat × Nat × Nat)}
    (hy : plainName y.cls = true) (hw : ws = Cond.codeWith y cc maxL ret hh :: ws')
    (body : ∀ p e s m args below meth c s₁, BodyLoose p l y (headSpec ws rm) cc maxL ret e s m args below meth c s₁ → c.maxLocals = maxL → Pc args s →
      W p l e (headSpec ws rm).room s m args below meth c s.heap [] 0 0 (vx_MQ below Qc XC args s mc ms free) (entryFrame m args maxL)) : vx_Met l y ws rm Pc Qc XC mc ms free := by
  refine MetFree.of_bodyS (code := cc) (maxLocals := maxL) (ret := ret) hy ?_ ?_
  · intro args s m h hn
    obtain ⟨m9, meth, c, hn9, h1, h2, h3, h4, -, h5, h6, -⟩ := Cond.codeWith_spec (atoms_spec (ws := ws) h _ (by rw [hw]; exact List.mem_cons_self))
    cases hn.symm.trans hn9
    exact ⟨meth, c, h1, h2, h3, h4, h5, h6⟩
  · intro p e s m args below meth c s₁ B hml hP _
    have hh0 : s₁.heap = s.heap := by rw [B.state]; rfl
    obtain ⟨t, a1, o, b1, b2, b3⟩ := body p e s m args below meth c s₁ B hml hP s₁ hh0 (Stand.of_body B)
    exact ⟨t, o, a1, b1, b2, b3⟩
/-! ===== END ===== -/
end
section
/-! ===== BEGIN printed: names, fields, word lists, decode rows ===== -/
def RX0 : String := "ThatchRoof$Roof"
def TX0 : u_T := fun k => match k with
  | 0 => ("ThatchRoof$Roof", "width", "I", false)
  | 1 => ("ThatchRoof$Roof", "courses", "I", false)
  | 2 => ("ThatchRoof$Roof", "slope", "I", false)
  | 3 => ("ThatchRoof$Roof", "ridge", "I", false)
  | 4 => ("ThatchRoof$Roof", "torn", "I", false)
  | 5 => ("ThatchRoof$Roof", "worn", "I", false)
  | 6 => ("ThatchRoof$Roof", "kinds", "[I", true)
  | 7 => ("ThatchRoof$Roof", "thicknesses", "[I", true)
  | 8 => ("ThatchRoof$Roof", "spars", "[I", true)
  | _ => ("ThatchRoof$Roof", "mosses", "[I", true)
def tyX0 : Nat → FieldType := fun k => match k with
  | 0 => .int
  | 1 => .int
  | 2 => .int
  | 3 => .int
  | 4 => .int
  | 5 => .int
  | 6 => .array .int
  | 7 => .array .int
  | 8 => .array .int
  | _ => .array .int
abbrev wsX00 : List Cond := u_ws RX0 TX0 10
theorem nmX0 : ∀ a, a < 10 → ∀ b, b < 10 → a ≠ b → (TX0 a).2.1 ≠ (TX0 b).2.1 := by decide +kernel
theorem tyX0_ok : ∀ k, k < 10 → parseFieldDescriptor (TX0 k).2.2.1 = some (tyX0 k) := by decide +kernel
abbrev cX0_init : ByteArray := prog_2_method_1_code
def yX0_init : MethodName := ⟨RX0, "<init>", "(III)V"⟩
abbrev cX0_becomeLike : ByteArray := prog_2_method_2_code
def yX0_becomeLike : MethodName := ⟨RX0, "becomeLike", "(LThatchRoof$Roof;)V"⟩
abbrev cX0_wide : ByteArray := prog_2_method_3_code
def yX0_wide : MethodName := ⟨RX0, "wide", "()I"⟩
abbrev cX0_high : ByteArray := prog_2_method_4_code
def yX0_high : MethodName := ⟨RX0, "high", "()I"⟩
abbrev cX0_ridgeLeft : ByteArray := prog_2_method_5_code
def yX0_ridgeLeft : MethodName := ⟨RX0, "ridgeLeft", "()I"⟩
abbrev cX0_hasCourse : ByteArray := prog_2_method_6_code
def yX0_hasCourse : MethodName := ⟨RX0, "hasCourse", "(I)Z"⟩
abbrev cX0_hasPlace : ByteArray := prog_2_method_7_code
def yX0_hasPlace : MethodName := ⟨RX0, "hasPlace", "(II)Z"⟩
abbrev cX0_numberOf : ByteArray := prog_2_method_8_code
def yX0_numberOf : MethodName := ⟨RX0, "numberOf", "(II)I"⟩
abbrev cX0_isHighest : ByteArray := prog_2_method_9_code
def yX0_isHighest : MethodName := ⟨RX0, "isHighest", "(I)Z"⟩
abbrev cX0_isEnd : ByteArray := prog_2_method_10_code
def yX0_isEnd : MethodName := ⟨RX0, "isEnd", "(I)Z"⟩
abbrev cX0_thicknessAt : ByteArray := prog_2_method_11_code
def yX0_thicknessAt : MethodName := ⟨RX0, "thicknessAt", "(II)I"⟩
abbrev cX0_hasYealm : ByteArray := prog_2_method_12_code
def yX0_hasYealm : MethodName := ⟨RX0, "hasYealm", "(II)Z"⟩
abbrev cX0_canCarry : ByteArray := prog_2_method_13_code
def yX0_canCarry : MethodName := ⟨RX0, "canCarry", "(II)Z"⟩
abbrev cX0_isBare : ByteArray := prog_2_method_14_code
def yX0_isBare : MethodName := ⟨RX0, "isBare", "(II)Z"⟩
abbrev cX0_putYealm : ByteArray := prog_2_method_15_code
def yX0_putYealm : MethodName := ⟨RX0, "putYealm", "(IIIII)V"⟩
abbrev cX0_kindAt : ByteArray := prog_2_method_16_code
def yX0_kindAt : MethodName := ⟨RX0, "kindAt", "(II)I"⟩
abbrev cX0_improve : ByteArray := prog_2_method_17_code
def yX0_improve : MethodName := ⟨RX0, "improve", "(II)V"⟩
abbrev cX0_renewRidge : ByteArray := prog_2_method_18_code
def yX0_renewRidge : MethodName := ⟨RX0, "renewRidge", "()I"⟩
abbrev cX0_tellYealm : ByteArray := prog_2_method_19_code
def yX0_tellYealm : MethodName := ⟨RX0, "tellYealm", "(III)I"⟩
abbrev cX0_tell : ByteArray := prog_2_method_20_code
def yX0_tell : MethodName := ⟨RX0, "tell", "(I)I"⟩
abbrev cX0_yealms : ByteArray := prog_2_method_21_code
def yX0_yealms : MethodName := ⟨RX0, "yealms", "()I"⟩
abbrev cX0_thicknessInAll : ByteArray := prog_2_method_22_code
def yX0_thicknessInAll : MethodName := ⟨RX0, "thicknessInAll", "()I"⟩
abbrev cX0_thicknessOver : ByteArray := prog_2_method_23_code
def yX0_thicknessOver : MethodName := ⟨RX0, "thicknessOver", "(I)I"⟩
abbrev cX0_leaks : ByteArray := prog_2_method_24_code
def yX0_leaks : MethodName := ⟨RX0, "leaks", "()I"⟩
abbrev cX0_liveMonth : ByteArray := prog_2_method_25_code
def yX0_liveMonth : MethodName := ⟨RX0, "liveMonth", "(II)I"⟩
abbrev cX0_liveMonthAt : ByteArray := prog_2_method_26_code
def yX0_liveMonthAt : MethodName := ⟨RX0, "liveMonthAt", "(III)I"⟩
abbrev cX0_wearRidge : ByteArray := prog_2_method_27_code
def yX0_wearRidge : MethodName := ⟨RX0, "wearRidge", "(I)V"⟩
abbrev cX0_rainOn : ByteArray := prog_2_method_28_code
def yX0_rainOn : MethodName := ⟨RX0, "rainOn", "(II)I"⟩
abbrev cX0_wearBy : ByteArray := prog_2_method_29_code
def yX0_wearBy : MethodName := ⟨RX0, "wearBy", "(III)I"⟩
abbrev cX0_growMoss : ByteArray := prog_2_method_30_code
def yX0_growMoss : MethodName := ⟨RX0, "growMoss", "(II)V"⟩
abbrev cX0_stormOn : ByteArray := prog_2_method_31_code
def yX0_stormOn : MethodName := ⟨RX0, "stormOn", "(II)I"⟩
abbrev cX0_wouldTear : ByteArray := prog_2_method_32_code
def yX0_wouldTear : MethodName := ⟨RX0, "wouldTear", "(III)Z"⟩
abbrev cX0_wouldTearInAll : ByteArray := prog_2_method_33_code
def yX0_wouldTearInAll : MethodName := ⟨RX0, "wouldTearInAll", "(I)I"⟩
def RX1 : String := "ThatchRoof"
def TX1 : u_T := fun k => match k with
  | 0 => ("ThatchRoof", "roofs", "[LThatchRoof$Roof;", true)
  | 1 => ("ThatchRoof", "built", "I", false)
  | 2 => ("ThatchRoof", "barn", "[I", true)
  | 3 => ("ThatchRoof", "rains", "[I", true)
  | 4 => ("ThatchRoof", "storms", "[I", true)
  | 5 => ("ThatchRoof", "month", "I", false)
  | _ => ("ThatchRoof", "trial", "LThatchRoof$Roof;", true)
def tyX1 : Nat → FieldType := fun k => match k with
  | 0 => .array (.object "ThatchRoof$Roof")
  | 1 => .int
  | 2 => .array .int
  | 3 => .array .int
  | 4 => .array .int
  | 5 => .int
  | _ => .object "ThatchRoof$Roof"
abbrev wsX10 : List Cond := u_ws RX1 TX1 7
theorem nmX1 : ∀ a, a < 7 → ∀ b, b < 7 → a ≠ b → (TX1 a).2.1 ≠ (TX1 b).2.1 := by decide +kernel
theorem tyX1_ok : ∀ k, k < 7 → parseFieldDescriptor (TX1 k).2.2.1 = some (tyX1 k) := by decide +kernel
abbrev cX1_init : ByteArray := prog_1_method_1_code
def yX1_init : MethodName := ⟨RX1, "<init>", "()V"⟩
abbrev cX1_build : ByteArray := prog_1_method_2_code
def yX1_build : MethodName := ⟨RX1, "build", "(III)I"⟩
abbrev cX1_bring : ByteArray := prog_1_method_3_code
def yX1_bring : MethodName := ⟨RX1, "bring", "(II)I"⟩
abbrev cX1_setWeather : ByteArray := prog_1_method_4_code
def yX1_setWeather : MethodName := ⟨RX1, "setWeather", "(III)I"⟩
abbrev cX1_lay : ByteArray := prog_1_method_5_code
def yX1_lay : MethodName := ⟨RX1, "lay", "(IIIIII)I"⟩
abbrev cX1_layCourse : ByteArray := prog_1_method_6_code
def yX1_layCourse : MethodName := ⟨RX1, "layCourse", "(IIIII)I"⟩
abbrev cX1_mend : ByteArray := prog_1_method_7_code
def yX1_mend : MethodName := ⟨RX1, "mend", "(III)I"⟩
abbrev cX1_bind : ByteArray := prog_1_method_8_code
def yX1_bind : MethodName := ⟨RX1, "bind", "(I)I"⟩
abbrev cX1_yealm : ByteArray := prog_1_method_9_code
def yX1_yealm : MethodName := ⟨RX1, "yealm", "(IIII)I"⟩
abbrev cX1_roof : ByteArray := prog_1_method_10_code
def yX1_roof : MethodName := ⟨RX1, "roof", "(II)I"⟩
abbrev cX1_count : ByteArray := prog_1_method_11_code
def yX1_count : MethodName := ⟨RX1, "count", "(I)I"⟩
abbrev cX1_pass : ByteArray := prog_1_method_12_code
def yX1_pass : MethodName := ⟨RX1, "pass", "(I)I"⟩
abbrev cX1_tears : ByteArray := prog_1_method_13_code
def yX1_tears : MethodName := ⟨RX1, "tears", "(II)I"⟩
abbrev cX1_holds : ByteArray := prog_1_method_14_code
def yX1_holds : MethodName := ⟨RX1, "holds", "(I)I"⟩
abbrev cX1_foresee : ByteArray := prog_1_method_15_code
def yX1_foresee : MethodName := ⟨RX1, "foresee", "(III)I"⟩
abbrev cX1_advise : ByteArray := prog_1_method_16_code
def yX1_advise : MethodName := ⟨RX1, "advise", "(II)I"⟩
abbrev cX1_needs : ByteArray := prog_1_method_17_code
def yX1_needs : MethodName := ⟨RX1, "needs", "(II)I"⟩
abbrev cX1_mean : ByteArray := prog_1_method_18_code
def yX1_mean : MethodName := ⟨RX1, "mean", "()D"⟩
abbrev cX1_digest : ByteArray := prog_1_method_19_code
def yX1_digest : MethodName := ⟨RX1, "digest", "()J"⟩
abbrev cX1_digestRoof : ByteArray := prog_1_method_20_code
def yX1_digestRoof : MethodName := ⟨RX1, "digestRoof", "(LThatchRoof$Roof;J)J"⟩
abbrev cX1_isWithin : ByteArray := prog_1_method_21_code
def yX1_isWithin : MethodName := ⟨RX1, "isWithin", "(III)Z"⟩
abbrev cX1_isYealm : ByteArray := prog_1_method_22_code
def yX1_isYealm : MethodName := ⟨RX1, "isYealm", "(II)Z"⟩
abbrev cX1_isKind : ByteArray := prog_1_method_23_code
def yX1_isKind : MethodName := ⟨RX1, "isKind", "(I)Z"⟩
abbrev cX1_bundlesFor : ByteArray := prog_1_method_24_code
def yX1_bundlesFor : MethodName := ⟨RX1, "bundlesFor", "(I)I"⟩
abbrev cX1_roofAt : ByteArray := prog_1_method_25_code
def yX1_roofAt : MethodName := ⟨RX1, "roofAt", "(I)LThatchRoof$Roof;"⟩
abbrev cX1_monthOfYear : ByteArray := prog_1_method_26_code
def yX1_monthOfYear : MethodName := ⟨RX1, "monthOfYear", "(I)I"⟩
abbrev cX1_rainAhead : ByteArray := prog_1_method_27_code
def yX1_rainAhead : MethodName := ⟨RX1, "rainAhead", "(I)I"⟩
abbrev cX1_stormAhead : ByteArray := prog_1_method_28_code
def yX1_stormAhead : MethodName := ⟨RX1, "stormAhead", "(I)I"⟩
abbrev cX1_tally : ByteArray := prog_1_method_29_code
def yX1_tally : MethodName := ⟨RX1, "tally", "(I)I"⟩
abbrev cX1_tallyOfRoofs : ByteArray := prog_1_method_30_code
def yX1_tallyOfRoofs : MethodName := ⟨RX1, "tallyOfRoofs", "(I)I"⟩
abbrev cX1_lostAt : ByteArray := prog_1_method_31_code
def yX1_lostAt : MethodName := ⟨RX1, "lostAt", "(LThatchRoof$Roof;III)I"⟩
def RX2 : String := "ThatchRoofModel$State"
def TX2 : u_T := fun k => match k with
  | 0 => ("ThatchRoofModel$State", "month", "I", false)
  | 1 => ("ThatchRoofModel$State", "ridge", "[I", true)
  | 2 => ("ThatchRoofModel$State", "torn", "[I", true)
  | 3 => ("ThatchRoofModel$State", "worn", "[I", true)
  | 4 => ("ThatchRoofModel$State", "kind", "[I", true)
  | 5 => ("ThatchRoofModel$State", "thick", "[I", true)
  | 6 => ("ThatchRoofModel$State", "spars", "[I", true)
  | 7 => ("ThatchRoofModel$State", "moss", "[I", true)
  | 8 => ("ThatchRoofModel$State", "isGone", "[Z", true)
  | _ => ("ThatchRoofModel$State", "this$0", "LThatchRoofModel;", true)
def tyX2 : Nat → FieldType := fun k => match k with
  | 0 => .int
  | 1 => .array .int
  | 2 => .array .int
  | 3 => .array .int
  | 4 => .array .int
  | 5 => .array .int
  | 6 => .array .int
  | 7 => .array .int
  | 8 => .array .boolean
  | _ => .object "ThatchRoofModel"
abbrev wsX20 : List Cond := u_ws RX2 TX2 10
theorem nmX2 : ∀ a, a < 10 → ∀ b, b < 10 → a ≠ b → (TX2 a).2.1 ≠ (TX2 b).2.1 := by decide +kernel
theorem tyX2_ok : ∀ k, k < 10 → parseFieldDescriptor (TX2 k).2.2.1 = some (tyX2 k) := by decide +kernel
abbrev cX2_init : ByteArray := prog_5_method_1_code
def yX2_init : MethodName := ⟨RX2, "<init>", "(LThatchRoofModel;)V"⟩
abbrev cX2_copy : ByteArray := prog_5_method_2_code
def yX2_copy : MethodName := ⟨RX2, "copy", "([I[I)V"⟩
abbrev cX2_become : ByteArray := prog_5_method_3_code
def yX2_become : MethodName := ⟨RX2, "become", "(LThatchRoofModel$State;)V"⟩
abbrev cX2_isThere : ByteArray := prog_5_method_4_code
def yX2_isThere : MethodName := ⟨RX2, "isThere", "(III)Z"⟩
abbrev cX2_isBare : ByteArray := prog_5_method_5_code
def yX2_isBare : MethodName := ⟨RX2, "isBare", "(III)Z"⟩
abbrev cX2_put : ByteArray := prog_5_method_6_code
def yX2_put : MethodName := ⟨RX2, "put", "(IIII)V"⟩
abbrev cX2_mend : ByteArray := prog_5_method_7_code
def yX2_mend : MethodName := ⟨RX2, "mend", "(I)V"⟩
abbrev cX2_thinned : ByteArray := prog_5_method_8_code
def yX2_thinned : MethodName := ⟨RX2, "thinned", "(IIII)I"⟩
abbrev cX2_isTorn : ByteArray := prog_5_method_9_code
def yX2_isTorn : MethodName := ⟨RX2, "isTorn", "(IIII)Z"⟩
abbrev cX2_clear : ByteArray := prog_5_method_10_code
def yX2_clear : MethodName := ⟨RX2, "clear", "(I)I"⟩
abbrev cX2_pass : ByteArray := prog_5_method_11_code
def yX2_pass : MethodName := ⟨RX2, "pass", "(II)V"⟩
abbrev cX2_yealms : ByteArray := prog_5_method_12_code
def yX2_yealms : MethodName := ⟨RX2, "yealms", "(I)I"⟩
abbrev cX2_thickness : ByteArray := prog_5_method_13_code
def yX2_thickness : MethodName := ⟨RX2, "thickness", "(I)I"⟩
abbrev cX2_leaks : ByteArray := prog_5_method_14_code
def yX2_leaks : MethodName := ⟨RX2, "leaks", "(I)I"⟩
def RX3 : String := "ThatchRoofModel"
def TX3 : u_T := fun k => match k with
  | 0 => ("ThatchRoofModel", "thrown", "I", false)
  | 1 => ("ThatchRoofModel", "roofs", "I", false)
  | 2 => ("ThatchRoofModel", "width", "[I", true)
  | 3 => ("ThatchRoofModel", "courses", "[I", true)
  | 4 => ("ThatchRoofModel", "slope", "[I", true)
  | 5 => ("ThatchRoofModel", "rain", "[I", true)
  | 6 => ("ThatchRoofModel", "storm", "[I", true)
  | 7 => ("ThatchRoofModel", "barn", "[I", true)
  | 8 => ("ThatchRoofModel", "s", "LThatchRoofModel$State;", true)
  | _ => ("ThatchRoofModel", "ahead", "LThatchRoofModel$State;", true)
def tyX3 : Nat → FieldType := fun k => match k with
  | 0 => .int
  | 1 => .int
  | 2 => .array .int
  | 3 => .array .int
  | 4 => .array .int
  | 5 => .array .int
  | 6 => .array .int
  | 7 => .array .int
  | 8 => .object "ThatchRoofModel$State"
  | _ => .object "ThatchRoofModel$State"
abbrev wsX30 : List Cond := u_ws RX3 TX3 10
theorem nmX3 : ∀ a, a < 10 → ∀ b, b < 10 → a ≠ b → (TX3 a).2.1 ≠ (TX3 b).2.1 := by decide +kernel
theorem tyX3_ok : ∀ k, k < 10 → parseFieldDescriptor (TX3 k).2.2.1 = some (tyX3 k) := by decide +kernel
abbrev cX3_init : ByteArray := prog_4_method_1_code
def yX3_init : MethodName := ⟨RX3, "<init>", "()V"⟩
abbrev cX3_thrown : ByteArray := prog_4_method_2_code
def yX3_thrown : MethodName := ⟨RX3, "thrown", "()I"⟩
abbrev cX3_no : ByteArray := prog_4_method_3_code
def yX3_no : MethodName := ⟨RX3, "no", "(I)I"⟩
abbrev cX3_isIn : ByteArray := prog_4_method_4_code
def yX3_isIn : MethodName := ⟨RX3, "isIn", "(III)Z"⟩
abbrev cX3_cell : ByteArray := prog_4_method_5_code
def yX3_cell : MethodName := ⟨RX3, "cell", "(III)I"⟩
abbrev cX3_isRoof : ByteArray := prog_4_method_6_code
def yX3_isRoof : MethodName := ⟨RX3, "isRoof", "(I)Z"⟩
abbrev cX3_isCourse : ByteArray := prog_4_method_7_code
def yX3_isCourse : MethodName := ⟨RX3, "isCourse", "(II)Z"⟩
abbrev cX3_isPlace : ByteArray := prog_4_method_8_code
def yX3_isPlace : MethodName := ⟨RX3, "isPlace", "(III)Z"⟩
abbrev cX3_build : ByteArray := prog_4_method_9_code
def yX3_build : MethodName := ⟨RX3, "build", "(III)I"⟩
abbrev cX3_bring : ByteArray := prog_4_method_10_code
def yX3_bring : MethodName := ⟨RX3, "bring", "(II)I"⟩
abbrev cX3_setWeather : ByteArray := prog_4_method_11_code
def yX3_setWeather : MethodName := ⟨RX3, "setWeather", "(III)I"⟩
abbrev cX3_bundles : ByteArray := prog_4_method_12_code
def yX3_bundles : MethodName := ⟨RX3, "bundles", "(I)I"⟩
abbrev cX3_isFree : ByteArray := prog_4_method_13_code
def yX3_isFree : MethodName := ⟨RX3, "isFree", "(III)Z"⟩
abbrev cX3_lay : ByteArray := prog_4_method_14_code
def yX3_lay : MethodName := ⟨RX3, "lay", "(IIIIII)I"⟩
abbrev cX3_layCourse : ByteArray := prog_4_method_15_code
def yX3_layCourse : MethodName := ⟨RX3, "layCourse", "(IIIII)I"⟩
abbrev cX3_mend : ByteArray := prog_4_method_16_code
def yX3_mend : MethodName := ⟨RX3, "mend", "(III)I"⟩
abbrev cX3_bind : ByteArray := prog_4_method_17_code
def yX3_bind : MethodName := ⟨RX3, "bind", "(I)I"⟩
abbrev cX3_yealmTold : ByteArray := prog_4_method_18_code
def yX3_yealmTold : MethodName := ⟨RX3, "yealmTold", "(IIII)I"⟩
abbrev cX3_yealm : ByteArray := prog_4_method_19_code
def yX3_yealm : MethodName := ⟨RX3, "yealm", "(IIII)I"⟩
abbrev cX3_roofTold : ByteArray := prog_4_method_20_code
def yX3_roofTold : MethodName := ⟨RX3, "roofTold", "(II)I"⟩
abbrev cX3_roof : ByteArray := prog_4_method_21_code
def yX3_roof : MethodName := ⟨RX3, "roof", "(II)I"⟩
abbrev cX3_counted : ByteArray := prog_4_method_22_code
def yX3_counted : MethodName := ⟨RX3, "counted", "(I)I"⟩
abbrev cX3_count : ByteArray := prog_4_method_23_code
def yX3_count : MethodName := ⟨RX3, "count", "(I)I"⟩
abbrev cX3_pass : ByteArray := prog_4_method_24_code
def yX3_pass : MethodName := ⟨RX3, "pass", "(I)I"⟩
abbrev cX3_tears : ByteArray := prog_4_method_25_code
def yX3_tears : MethodName := ⟨RX3, "tears", "(II)I"⟩
abbrev cX3_holds : ByteArray := prog_4_method_26_code
def yX3_holds : MethodName := ⟨RX3, "holds", "(I)I"⟩
abbrev cX3_foresee : ByteArray := prog_4_method_27_code
def yX3_foresee : MethodName := ⟨RX3, "foresee", "(III)I"⟩
abbrev cX3_left : ByteArray := prog_4_method_28_code
def yX3_left : MethodName := ⟨RX3, "left", "(III)I"⟩
abbrev cX3_advise : ByteArray := prog_4_method_29_code
def yX3_advise : MethodName := ⟨RX3, "advise", "(II)I"⟩
abbrev cX3_needs : ByteArray := prog_4_method_30_code
def yX3_needs : MethodName := ⟨RX3, "needs", "(II)I"⟩
abbrev cX3_mean : ByteArray := prog_4_method_31_code
def yX3_mean : MethodName := ⟨RX3, "mean", "()D"⟩
abbrev cX3_digest : ByteArray := prog_4_method_32_code
def yX3_digest : MethodName := ⟨RX3, "digest", "()J"⟩
def RJ9 : String := "java/lang/Math"
def TJ9 : u_T := fun k => match k with
  | _ => ("", "", "", false)
def tyJ9 : Nat → FieldType := fun k => match k with
  | _ => .int
abbrev wsJ90 : List Cond := u_ws RJ9 TJ9 0
theorem nmJ9 : ∀ a, a < 0 → ∀ b, b < 0 → a ≠ b → (TJ9 a).2.1 ≠ (TJ9 b).2.1 := by decide +kernel
theorem tyJ9_ok : ∀ k, k < 0 → parseFieldDescriptor (TJ9 k).2.2.1 = some (tyJ9 k) := by decide +kernel
abbrev cJ9_floorMod_7cf53 : ByteArray := prog_10_method_50_code
def yJ9_floorMod_7cf53 : MethodName := ⟨RJ9, "floorMod", "(II)I"⟩
abbrev cJ9_max_7cf53 : ByteArray := prog_10_method_65_code
def yJ9_max_7cf53 : MethodName := ⟨RJ9, "max", "(II)I"⟩
abbrev cJ9_min_7cf53 : ByteArray := prog_10_method_69_code
def yJ9_min_7cf53 : MethodName := ⟨RJ9, "min", "(II)I"⟩
def RJ0 : String := "java/lang/String"
def TJ0 : u_T := fun k => match k with
  | _ => ("", "", "", false)
def tyJ0 : Nat → FieldType := fun k => match k with
  | _ => .int
abbrev wsJ00 : List Cond := u_ws RJ0 TJ0 0
theorem nmJ0 : ∀ a, a < 0 → ∀ b, b < 0 → a ≠ b → (TJ0 a).2.1 ≠ (TJ0 b).2.1 := by decide +kernel
theorem tyJ0_ok : ∀ k, k < 0 → parseFieldDescriptor (TJ0 k).2.2.1 = some (tyJ0 k) := by decide +kernel
def RJ10 : String := "java/lang/System"
def TJ10 : u_T := fun k => match k with
  | _ => ("", "", "", false)
def tyJ10 : Nat → FieldType := fun k => match k with
  | _ => .int
abbrev wsJ100 : List Cond := u_ws RJ10 TJ10 0
theorem nmJ10 : ∀ a, a < 0 → ∀ b, b < 0 → a ≠ b → (TJ10 a).2.1 ≠ (TJ10 b).2.1 := by decide +kernel
theorem tyJ10_ok : ∀ k, k < 0 → parseFieldDescriptor (TJ10 k).2.2.1 = some (tyJ10 k) := by decide +kernel
def RL : String := "ThatchRoofLaw"
abbrev cL_build : ByteArray := method_3_code
def yL_build : MethodName := ⟨RL, "build", "(LThatchRoof;III[J)I"⟩
abbrev cL_bring : ByteArray := method_4_code
def yL_bring : MethodName := ⟨RL, "bring", "(LThatchRoof;II[J)I"⟩
abbrev cL_setWeather : ByteArray := method_5_code
def yL_setWeather : MethodName := ⟨RL, "setWeather", "(LThatchRoof;III[J)I"⟩
abbrev cL_lay : ByteArray := method_6_code
def yL_lay : MethodName := ⟨RL, "lay", "(LThatchRoof;IIIIII[J)I"⟩
abbrev cL_layCourse : ByteArray := method_7_code
def yL_layCourse : MethodName := ⟨RL, "layCourse", "(LThatchRoof;IIIII[J)I"⟩
abbrev cL_mend : ByteArray := method_8_code
def yL_mend : MethodName := ⟨RL, "mend", "(LThatchRoof;III[J)I"⟩
abbrev cL_bind : ByteArray := method_9_code
def yL_bind : MethodName := ⟨RL, "bind", "(LThatchRoof;I[J)I"⟩
abbrev cL_yealm : ByteArray := method_10_code
def yL_yealm : MethodName := ⟨RL, "yealm", "(LThatchRoof;IIII[J)I"⟩
abbrev cL_roof : ByteArray := method_11_code
def yL_roof : MethodName := ⟨RL, "roof", "(LThatchRoof;II[J)I"⟩
abbrev cL_count : ByteArray := method_12_code
def yL_count : MethodName := ⟨RL, "count", "(LThatchRoof;I[J)I"⟩
abbrev cL_pass : ByteArray := method_13_code
def yL_pass : MethodName := ⟨RL, "pass", "(LThatchRoof;I[J)I"⟩
abbrev cL_tears : ByteArray := method_14_code
def yL_tears : MethodName := ⟨RL, "tears", "(LThatchRoof;II[J)I"⟩
abbrev cL_holds : ByteArray := method_15_code
def yL_holds : MethodName := ⟨RL, "holds", "(LThatchRoof;I[J)I"⟩
abbrev cL_foresee : ByteArray := method_16_code
def yL_foresee : MethodName := ⟨RL, "foresee", "(LThatchRoof;III[J)I"⟩
abbrev cL_advise : ByteArray := method_17_code
def yL_advise : MethodName := ⟨RL, "advise", "(LThatchRoof;II[J)I"⟩
abbrev cL_needs : ByteArray := method_18_code
def yL_needs : MethodName := ⟨RL, "needs", "(LThatchRoof;II[J)I"⟩
abbrev cL_law : ByteArray := code
def yL_law : MethodName := ⟨RL, "law", "([I)Z"⟩
def wsX0_init : List Cond := .code yX0_init cX0_init 4 none :: ([.methodLink RX0 3 objectInit, .instanceMethod objectInit, .code objectInit ⟨#[0xb1]⟩ 1 none, .arrayClass .int, .fieldLink RX0 9 "ThatchRoof$Roof" "kinds" "[I", .fieldLink RX0 15 "ThatchRoof$Roof" "thicknesses" "[I", .fieldLink RX0 18 "ThatchRoof$Roof" "spars" "[I", .fieldLink RX0 21 "ThatchRoof$Roof" "mosses" "[I", .fieldLink RX0 24 "ThatchRoof$Roof" "width" "I", .fieldLink RX0 28 "ThatchRoof$Roof" "courses" "I", .fieldLink RX0 31 "ThatchRoof$Roof" "slope" "I", .fieldLink RX0 34 "ThatchRoof$Roof" "ridge" "I"] ++ wsX00)
def wsX0_becomeLike : List Cond := .code yX0_becomeLike cX0_becomeLike 2 none :: ([.fieldLink RX0 24 "ThatchRoof$Roof" "width" "I", .fieldLink RX0 28 "ThatchRoof$Roof" "courses" "I", .fieldLink RX0 31 "ThatchRoof$Roof" "slope" "I", .fieldLink RX0 34 "ThatchRoof$Roof" "ridge" "I", .fieldLink RX0 9 "ThatchRoof$Roof" "kinds" "[I", .methodLink RX0 37 arraycopyName, .native arraycopyName, .static arraycopyName, .initialized "java/lang/System", .fieldLink RX0 15 "ThatchRoof$Roof" "thicknesses" "[I", .fieldLink RX0 18 "ThatchRoof$Roof" "spars" "[I", .fieldLink RX0 21 "ThatchRoof$Roof" "mosses" "[I"] ++ wsX00)
def wsX0_wide : List Cond := .code yX0_wide cX0_wide 1 (some .int) :: ([.fieldLink RX0 24 "ThatchRoof$Roof" "width" "I"] ++ wsX00)
def wsX0_high : List Cond := .code yX0_high cX0_high 1 (some .int) :: ([.fieldLink RX0 28 "ThatchRoof$Roof" "courses" "I"] ++ wsX00)
def wsX0_ridgeLeft : List Cond := .code yX0_ridgeLeft cX0_ridgeLeft 1 (some .int) :: ([.fieldLink RX0 34 "ThatchRoof$Roof" "ridge" "I"] ++ wsX00)
def wsX0_hasCourse : List Cond := .code yX0_hasCourse cX0_hasCourse 2 (some .boolean) :: ([.fieldLink RX0 28 "ThatchRoof$Roof" "courses" "I"] ++ wsX00)
def wsX0_hasPlace : List Cond := .code yX0_hasPlace cX0_hasPlace 3 (some .boolean) :: ([.fieldLink RX0 24 "ThatchRoof$Roof" "width" "I", .methodLink RX0 43 yX0_hasCourse, .instanceMethod yX0_hasCourse, .selects RX0 yX0_hasCourse yX0_hasCourse, .initialized RX0, .code yX0_hasCourse cX0_hasCourse 2 (some .boolean), .fieldLink RX0 28 "ThatchRoof$Roof" "courses" "I"] ++ wsX00)
def wsX0_numberOf : List Cond := .code yX0_numberOf cX0_numberOf 3 (some .int) :: ([.fieldLink RX0 24 "ThatchRoof$Roof" "width" "I"] ++ wsX00)
def wsX0_isHighest : List Cond := .code yX0_isHighest cX0_isHighest 2 (some .boolean) :: ([.fieldLink RX0 28 "ThatchRoof$Roof" "courses" "I"] ++ wsX00)
def wsX0_isEnd : List Cond := .code yX0_isEnd cX0_isEnd 2 (some .boolean) :: ([.fieldLink RX0 24 "ThatchRoof$Roof" "width" "I"] ++ wsX00)
def wsX0_thicknessAt : List Cond := .code yX0_thicknessAt cX0_thicknessAt 3 (some .int) :: ([.fieldLink RX0 28 "ThatchRoof$Roof" "courses" "I", .fieldLink RX0 24 "ThatchRoof$Roof" "width" "I", .fieldLink RX0 15 "ThatchRoof$Roof" "thicknesses" "[I"] ++ wsX00)
def wsX0_hasYealm : List Cond := .code yX0_hasYealm cX0_hasYealm 3 (some .boolean) :: ([.methodLink RX0 47 yX0_thicknessAt, .instanceMethod yX0_thicknessAt, .selects RX0 yX0_thicknessAt yX0_thicknessAt, .initialized RX0, .code yX0_thicknessAt cX0_thicknessAt 3 (some .int), .fieldLink RX0 28 "ThatchRoof$Roof" "courses" "I", .fieldLink RX0 24 "ThatchRoof$Roof" "width" "I", .fieldLink RX0 15 "ThatchRoof$Roof" "thicknesses" "[I"] ++ wsX00)
def wsX0_canCarry : List Cond := .code yX0_canCarry cX0_canCarry 3 (some .boolean) :: ([.methodLink RX0 51 yX0_hasYealm, .instanceMethod yX0_hasYealm, .selects RX0 yX0_hasYealm yX0_hasYealm, .initialized RX0, .code yX0_hasYealm cX0_hasYealm 3 (some .boolean), .methodLink RX0 47 yX0_thicknessAt, .instanceMethod yX0_thicknessAt, .selects RX0 yX0_thicknessAt yX0_thicknessAt, .code yX0_thicknessAt cX0_thicknessAt 3 (some .int), .fieldLink RX0 28 "ThatchRoof$Roof" "courses" "I", .fieldLink RX0 24 "ThatchRoof$Roof" "width" "I", .fieldLink RX0 15 "ThatchRoof$Roof" "thicknesses" "[I"] ++ wsX00)
def wsX0_isBare : List Cond := .code yX0_isBare cX0_isBare 3 (some .boolean) :: ([.methodLink RX0 55 yX0_isHighest, .instanceMethod yX0_isHighest, .selects RX0 yX0_isHighest yX0_isHighest, .initialized RX0, .code yX0_isHighest cX0_isHighest 2 (some .boolean), .fieldLink RX0 28 "ThatchRoof$Roof" "courses" "I", .methodLink RX0 47 yX0_thicknessAt, .instanceMethod yX0_thicknessAt, .selects RX0 yX0_thicknessAt yX0_thicknessAt, .code yX0_thicknessAt cX0_thicknessAt 3 (some .int), .fieldLink RX0 24 "ThatchRoof$Roof" "width" "I", .fieldLink RX0 15 "ThatchRoof$Roof" "thicknesses" "[I"] ++ wsX00)
def wsX0_putYealm : List Cond := .code yX0_putYealm cX0_putYealm 7 none :: ([.fieldLink RX0 9 "ThatchRoof$Roof" "kinds" "[I", .fieldLink RX0 15 "ThatchRoof$Roof" "thicknesses" "[I", .fieldLink RX0 18 "ThatchRoof$Roof" "spars" "[I", .fieldLink RX0 21 "ThatchRoof$Roof" "mosses" "[I", .methodLink RX0 58 yX0_hasPlace, .instanceMethod yX0_hasPlace, .selects RX0 yX0_hasPlace yX0_hasPlace, .initialized RX0, .code yX0_hasPlace cX0_hasPlace 3 (some .boolean), .fieldLink RX0 24 "ThatchRoof$Roof" "width" "I", .methodLink RX0 43 yX0_hasCourse, .instanceMethod yX0_hasCourse, .selects RX0 yX0_hasCourse yX0_hasCourse, .code yX0_hasCourse cX0_hasCourse 2 (some .boolean), .fieldLink RX0 28 "ThatchRoof$Roof" "courses" "I", .methodLink RX0 61 yX0_numberOf, .instanceMethod yX0_numberOf, .selects RX0 yX0_numberOf yX0_numberOf, .code yX0_numberOf cX0_numberOf 3 (some .int)] ++ wsX00)
def wsX0_kindAt : List Cond := .code yX0_kindAt cX0_kindAt 3 (some .int) :: ([.fieldLink RX0 9 "ThatchRoof$Roof" "kinds" "[I", .methodLink RX0 51 yX0_hasYealm, .instanceMethod yX0_hasYealm, .selects RX0 yX0_hasYealm yX0_hasYealm, .initialized RX0, .code yX0_hasYealm cX0_hasYealm 3 (some .boolean), .methodLink RX0 47 yX0_thicknessAt, .instanceMethod yX0_thicknessAt, .selects RX0 yX0_thicknessAt yX0_thicknessAt, .code yX0_thicknessAt cX0_thicknessAt 3 (some .int), .fieldLink RX0 28 "ThatchRoof$Roof" "courses" "I", .fieldLink RX0 24 "ThatchRoof$Roof" "width" "I", .fieldLink RX0 15 "ThatchRoof$Roof" "thicknesses" "[I", .methodLink RX0 61 yX0_numberOf, .instanceMethod yX0_numberOf, .selects RX0 yX0_numberOf yX0_numberOf, .code yX0_numberOf cX0_numberOf 3 (some .int)] ++ wsX00)
def wsX0_improve : List Cond := .code yX0_improve cX0_improve 4 none :: ([.fieldLink RX0 21 "ThatchRoof$Roof" "mosses" "[I", .fieldLink RX0 18 "ThatchRoof$Roof" "spars" "[I", .methodLink RX0 64 Lib.Math.min.name, .static Lib.Math.min.name, .initialized "java/lang/Math", .code Lib.Math.min.name Lib.Math.min.code 2 (some .int), .fieldLink RX0 15 "ThatchRoof$Roof" "thicknesses" "[I", .methodLink RX0 51 yX0_hasYealm, .instanceMethod yX0_hasYealm, .selects RX0 yX0_hasYealm yX0_hasYealm, .initialized RX0, .code yX0_hasYealm cX0_hasYealm 3 (some .boolean), .methodLink RX0 47 yX0_thicknessAt, .instanceMethod yX0_thicknessAt, .selects RX0 yX0_thicknessAt yX0_thicknessAt, .code yX0_thicknessAt cX0_thicknessAt 3 (some .int), .fieldLink RX0 28 "ThatchRoof$Roof" "courses" "I", .fieldLink RX0 24 "ThatchRoof$Roof" "width" "I", .methodLink RX0 61 yX0_numberOf, .instanceMethod yX0_numberOf, .selects RX0 yX0_numberOf yX0_numberOf, .code yX0_numberOf cX0_numberOf 3 (some .int)] ++ wsX00)
def wsX0_renewRidge : List Cond := .code yX0_renewRidge cX0_renewRidge 2 (some .int) :: ([.fieldLink RX0 34 "ThatchRoof$Roof" "ridge" "I"] ++ wsX00)
def wsX0_tellYealm_r1 : List Cond := [Cond.fieldLink RX0 9 "ThatchRoof$Roof" "kinds" "[I", Cond.fieldLink RX0 15 "ThatchRoof$Roof" "thicknesses" "[I", Cond.fieldLink RX0 18 "ThatchRoof$Roof" "spars" "[I", Cond.fieldLink RX0 21 "ThatchRoof$Roof" "mosses" "[I", Cond.methodLink RX0 51 yX0_hasYealm, Cond.instanceMethod yX0_hasYealm, Cond.selects RX0 yX0_hasYealm yX0_hasYealm, Cond.initialized RX0, Cond.code yX0_hasYealm cX0_hasYealm 3 (some .boolean), Cond.methodLink RX0 47 yX0_thicknessAt, Cond.instanceMethod yX0_thicknessAt, Cond.selects RX0 yX0_thicknessAt yX0_thicknessAt, Cond.code yX0_thicknessAt cX0_thicknessAt 3 (some .int), Cond.fieldLink RX0 28 "ThatchRoof$Roof" "courses" "I", Cond.fieldLink RX0 24 "ThatchRoof$Roof" "width" "I", Cond.methodLink RX0 61 yX0_numberOf, Cond.instanceMethod yX0_numberOf, Cond.selects RX0 yX0_numberOf yX0_numberOf, Cond.code yX0_numberOf cX0_numberOf 3 (some .int), Cond.methodLink RX0 69 yX0_isBare, Cond.instanceMethod yX0_isBare, Cond.selects RX0 yX0_isBare yX0_isBare, Cond.code yX0_isBare cX0_isBare 3 (some .boolean), Cond.methodLink RX0 55 yX0_isHighest]
def wsX0_tellYealm_r2 : List Cond := [Cond.instanceMethod yX0_isHighest, Cond.selects RX0 yX0_isHighest yX0_isHighest, Cond.code yX0_isHighest cX0_isHighest 2 (some .boolean)]
def wsX0_tellYealm : List Cond := .code yX0_tellYealm cX0_tellYealm 5 (some .int) :: ((wsX0_tellYealm_r1 ++ wsX0_tellYealm_r2) ++ wsX00)
def wsX0_yealms : List Cond := .code yX0_yealms cX0_yealms 4 (some .int) :: ([.fieldLink RX0 28 "ThatchRoof$Roof" "courses" "I", .fieldLink RX0 24 "ThatchRoof$Roof" "width" "I", .methodLink RX0 51 yX0_hasYealm, .instanceMethod yX0_hasYealm, .selects RX0 yX0_hasYealm yX0_hasYealm, .initialized RX0, .code yX0_hasYealm cX0_hasYealm 3 (some .boolean), .methodLink RX0 47 yX0_thicknessAt, .instanceMethod yX0_thicknessAt, .selects RX0 yX0_thicknessAt yX0_thicknessAt, .code yX0_thicknessAt cX0_thicknessAt 3 (some .int), .fieldLink RX0 15 "ThatchRoof$Roof" "thicknesses" "[I"] ++ wsX00)
def wsX0_thicknessOver : List Cond := .code yX0_thicknessOver cX0_thicknessOver 4 (some .int) :: ([.fieldLink RX0 28 "ThatchRoof$Roof" "courses" "I", .methodLink RX0 47 yX0_thicknessAt, .instanceMethod yX0_thicknessAt, .selects RX0 yX0_thicknessAt yX0_thicknessAt, .initialized RX0, .code yX0_thicknessAt cX0_thicknessAt 3 (some .int), .fieldLink RX0 24 "ThatchRoof$Roof" "width" "I", .fieldLink RX0 15 "ThatchRoof$Roof" "thicknesses" "[I"] ++ wsX00)
def wsX0_thicknessInAll : List Cond := .code yX0_thicknessInAll cX0_thicknessInAll 3 (some .int) :: ([.fieldLink RX0 24 "ThatchRoof$Roof" "width" "I", .methodLink RX0 88 yX0_thicknessOver, .instanceMethod yX0_thicknessOver, .selects RX0 yX0_thicknessOver yX0_thicknessOver, .initialized RX0, .code yX0_thicknessOver cX0_thicknessOver 4 (some .int), .fieldLink RX0 28 "ThatchRoof$Roof" "courses" "I", .methodLink RX0 47 yX0_thicknessAt, .instanceMethod yX0_thicknessAt, .selects RX0 yX0_thicknessAt yX0_thicknessAt, .code yX0_thicknessAt cX0_thicknessAt 3 (some .int), .fieldLink RX0 15 "ThatchRoof$Roof" "thicknesses" "[I"] ++ wsX00)
def wsX0_leaks : List Cond := .code yX0_leaks cX0_leaks 3 (some .int) :: ([.fieldLink RX0 24 "ThatchRoof$Roof" "width" "I", .fieldLink RX0 28 "ThatchRoof$Roof" "courses" "I", .methodLink RX0 88 yX0_thicknessOver, .instanceMethod yX0_thicknessOver, .selects RX0 yX0_thicknessOver yX0_thicknessOver, .initialized RX0, .code yX0_thicknessOver cX0_thicknessOver 4 (some .int), .methodLink RX0 47 yX0_thicknessAt, .instanceMethod yX0_thicknessAt, .selects RX0 yX0_thicknessAt yX0_thicknessAt, .code yX0_thicknessAt cX0_thicknessAt 3 (some .int), .fieldLink RX0 15 "ThatchRoof$Roof" "thicknesses" "[I", .methodLink RX0 51 yX0_hasYealm, .instanceMethod yX0_hasYealm, .selects RX0 yX0_hasYealm yX0_hasYealm, .code yX0_hasYealm cX0_hasYealm 3 (some .boolean)] ++ wsX00)
def wsX0_tell_r1 : List Cond := [Cond.fieldLink RX0 24 "ThatchRoof$Roof" "width" "I", Cond.fieldLink RX0 28 "ThatchRoof$Roof" "courses" "I", Cond.fieldLink RX0 31 "ThatchRoof$Roof" "slope" "I", Cond.fieldLink RX0 34 "ThatchRoof$Roof" "ridge" "I", Cond.fieldLink RX0 82 "ThatchRoof$Roof" "torn" "I", Cond.fieldLink RX0 85 "ThatchRoof$Roof" "worn" "I", Cond.methodLink RX0 72 yX0_yealms, Cond.instanceMethod yX0_yealms, Cond.selects RX0 yX0_yealms yX0_yealms, Cond.initialized RX0, Cond.code yX0_yealms cX0_yealms 4 (some .int), Cond.methodLink RX0 51 yX0_hasYealm, Cond.instanceMethod yX0_hasYealm, Cond.selects RX0 yX0_hasYealm yX0_hasYealm, Cond.code yX0_hasYealm cX0_hasYealm 3 (some .boolean), Cond.methodLink RX0 47 yX0_thicknessAt, Cond.instanceMethod yX0_thicknessAt, Cond.selects RX0 yX0_thicknessAt yX0_thicknessAt, Cond.code yX0_thicknessAt cX0_thicknessAt 3 (some .int), Cond.fieldLink RX0 15 "ThatchRoof$Roof" "thicknesses" "[I", Cond.methodLink RX0 76 yX0_thicknessInAll, Cond.instanceMethod yX0_thicknessInAll, Cond.selects RX0 yX0_thicknessInAll yX0_thicknessInAll, Cond.code yX0_thicknessInAll cX0_thicknessInAll 3 (some .int)]
def wsX0_tell_r2 : List Cond := [Cond.methodLink RX0 88 yX0_thicknessOver, Cond.instanceMethod yX0_thicknessOver, Cond.selects RX0 yX0_thicknessOver yX0_thicknessOver, Cond.code yX0_thicknessOver cX0_thicknessOver 4 (some .int), Cond.methodLink RX0 79 yX0_leaks, Cond.instanceMethod yX0_leaks, Cond.selects RX0 yX0_leaks yX0_leaks, Cond.code yX0_leaks cX0_leaks 3 (some .int)]
def wsX0_tell : List Cond := .code yX0_tell cX0_tell 2 (some .int) :: ((wsX0_tell_r1 ++ wsX0_tell_r2) ++ wsX00)
def wsX0_wearBy : List Cond := .code yX0_wearBy cX0_wearBy 6 (some .int) :: ([.fieldLink RX0 21 "ThatchRoof$Roof" "mosses" "[I", .fieldLink RX0 31 "ThatchRoof$Roof" "slope" "I", .fieldLink RX0 9 "ThatchRoof$Roof" "kinds" "[I", .methodLink RX0 61 yX0_numberOf, .instanceMethod yX0_numberOf, .selects RX0 yX0_numberOf yX0_numberOf, .initialized RX0, .code yX0_numberOf cX0_numberOf 3 (some .int), .fieldLink RX0 24 "ThatchRoof$Roof" "width" "I", .methodLink RX0 69 yX0_isBare, .instanceMethod yX0_isBare, .selects RX0 yX0_isBare yX0_isBare, .code yX0_isBare cX0_isBare 3 (some .boolean), .methodLink RX0 55 yX0_isHighest, .instanceMethod yX0_isHighest, .selects RX0 yX0_isHighest yX0_isHighest, .code yX0_isHighest cX0_isHighest 2 (some .boolean), .fieldLink RX0 28 "ThatchRoof$Roof" "courses" "I", .methodLink RX0 47 yX0_thicknessAt, .instanceMethod yX0_thicknessAt, .selects RX0 yX0_thicknessAt yX0_thicknessAt, .code yX0_thicknessAt cX0_thicknessAt 3 (some .int), .fieldLink RX0 15 "ThatchRoof$Roof" "thicknesses" "[I"] ++ wsX00)
def wsX0_rainOn_r1 : List Cond := [Cond.fieldLink RX0 28 "ThatchRoof$Roof" "courses" "I", Cond.fieldLink RX0 15 "ThatchRoof$Roof" "thicknesses" "[I", Cond.methodLink RX0 110 Lib.Math.max.name, Cond.static Lib.Math.max.name, Cond.initialized "java/lang/Math", Cond.code Lib.Math.max.name Lib.Math.max.code 2 (some .int), Cond.methodLink RX0 51 yX0_hasYealm, Cond.instanceMethod yX0_hasYealm, Cond.selects RX0 yX0_hasYealm yX0_hasYealm, Cond.initialized RX0, Cond.code yX0_hasYealm cX0_hasYealm 3 (some .boolean), Cond.methodLink RX0 47 yX0_thicknessAt, Cond.instanceMethod yX0_thicknessAt, Cond.selects RX0 yX0_thicknessAt yX0_thicknessAt, Cond.code yX0_thicknessAt cX0_thicknessAt 3 (some .int), Cond.fieldLink RX0 24 "ThatchRoof$Roof" "width" "I", Cond.methodLink RX0 61 yX0_numberOf, Cond.instanceMethod yX0_numberOf, Cond.selects RX0 yX0_numberOf yX0_numberOf, Cond.code yX0_numberOf cX0_numberOf 3 (some .int), Cond.methodLink RX0 113 yX0_wearBy, Cond.instanceMethod yX0_wearBy, Cond.selects RX0 yX0_wearBy yX0_wearBy, Cond.code yX0_wearBy cX0_wearBy 6 (some .int)]
def wsX0_rainOn_r2 : List Cond := [Cond.fieldLink RX0 21 "ThatchRoof$Roof" "mosses" "[I", Cond.fieldLink RX0 31 "ThatchRoof$Roof" "slope" "I", Cond.fieldLink RX0 9 "ThatchRoof$Roof" "kinds" "[I", Cond.methodLink RX0 69 yX0_isBare, Cond.instanceMethod yX0_isBare, Cond.selects RX0 yX0_isBare yX0_isBare, Cond.code yX0_isBare cX0_isBare 3 (some .boolean), Cond.methodLink RX0 55 yX0_isHighest, Cond.instanceMethod yX0_isHighest, Cond.selects RX0 yX0_isHighest yX0_isHighest, Cond.code yX0_isHighest cX0_isHighest 2 (some .boolean)]
def wsX0_rainOn : List Cond := .code yX0_rainOn cX0_rainOn 6 (some .int) :: ((wsX0_rainOn_r1 ++ wsX0_rainOn_r2) ++ wsX00)
def wsX0_growMoss : List Cond := .code yX0_growMoss cX0_growMoss 5 none :: ([.fieldLink RX0 31 "ThatchRoof$Roof" "slope" "I", .fieldLink RX0 28 "ThatchRoof$Roof" "courses" "I", .fieldLink RX0 21 "ThatchRoof$Roof" "mosses" "[I", .methodLink RX0 64 Lib.Math.min.name, .static Lib.Math.min.name, .initialized "java/lang/Math", .code Lib.Math.min.name Lib.Math.min.code 2 (some .int), .methodLink RX0 51 yX0_hasYealm, .instanceMethod yX0_hasYealm, .selects RX0 yX0_hasYealm yX0_hasYealm, .initialized RX0, .code yX0_hasYealm cX0_hasYealm 3 (some .boolean), .methodLink RX0 47 yX0_thicknessAt, .instanceMethod yX0_thicknessAt, .selects RX0 yX0_thicknessAt yX0_thicknessAt, .code yX0_thicknessAt cX0_thicknessAt 3 (some .int), .fieldLink RX0 24 "ThatchRoof$Roof" "width" "I", .fieldLink RX0 15 "ThatchRoof$Roof" "thicknesses" "[I", .methodLink RX0 61 yX0_numberOf, .instanceMethod yX0_numberOf, .selects RX0 yX0_numberOf yX0_numberOf, .code yX0_numberOf cX0_numberOf 3 (some .int)] ++ wsX00)
def wsX0_wouldTear_r1 : List Cond := [Cond.fieldLink RX0 18 "ThatchRoof$Roof" "spars" "[I", Cond.fieldLink RX0 15 "ThatchRoof$Roof" "thicknesses" "[I", Cond.fieldLink RX0 34 "ThatchRoof$Roof" "ridge" "I", Cond.methodLink RX0 51 yX0_hasYealm, Cond.instanceMethod yX0_hasYealm, Cond.selects RX0 yX0_hasYealm yX0_hasYealm, Cond.initialized RX0, Cond.code yX0_hasYealm cX0_hasYealm 3 (some .boolean), Cond.methodLink RX0 47 yX0_thicknessAt, Cond.instanceMethod yX0_thicknessAt, Cond.selects RX0 yX0_thicknessAt yX0_thicknessAt, Cond.code yX0_thicknessAt cX0_thicknessAt 3 (some .int), Cond.fieldLink RX0 28 "ThatchRoof$Roof" "courses" "I", Cond.fieldLink RX0 24 "ThatchRoof$Roof" "width" "I", Cond.methodLink RX0 61 yX0_numberOf, Cond.instanceMethod yX0_numberOf, Cond.selects RX0 yX0_numberOf yX0_numberOf, Cond.code yX0_numberOf cX0_numberOf 3 (some .int), Cond.methodLink RX0 69 yX0_isBare, Cond.instanceMethod yX0_isBare, Cond.selects RX0 yX0_isBare yX0_isBare, Cond.code yX0_isBare cX0_isBare 3 (some .boolean), Cond.methodLink RX0 55 yX0_isHighest, Cond.instanceMethod yX0_isHighest]
def wsX0_wouldTear_r2 : List Cond := [Cond.selects RX0 yX0_isHighest yX0_isHighest, Cond.code yX0_isHighest cX0_isHighest 2 (some .boolean), Cond.methodLink RX0 120 yX0_isEnd, Cond.instanceMethod yX0_isEnd, Cond.selects RX0 yX0_isEnd yX0_isEnd, Cond.code yX0_isEnd cX0_isEnd 2 (some .boolean)]
def wsX0_wouldTear : List Cond := .code yX0_wouldTear cX0_wouldTear 7 (some .boolean) :: ((wsX0_wouldTear_r1 ++ wsX0_wouldTear_r2) ++ wsX00)
def wsX0_stormOn_r1 : List Cond := [Cond.fieldLink RX0 28 "ThatchRoof$Roof" "courses" "I", Cond.fieldLink RX0 15 "ThatchRoof$Roof" "thicknesses" "[I", Cond.methodLink RX0 116 yX0_wouldTear, Cond.instanceMethod yX0_wouldTear, Cond.selects RX0 yX0_wouldTear yX0_wouldTear, Cond.initialized RX0, Cond.code yX0_wouldTear cX0_wouldTear 7 (some .boolean), Cond.fieldLink RX0 18 "ThatchRoof$Roof" "spars" "[I", Cond.fieldLink RX0 34 "ThatchRoof$Roof" "ridge" "I", Cond.methodLink RX0 51 yX0_hasYealm, Cond.instanceMethod yX0_hasYealm, Cond.selects RX0 yX0_hasYealm yX0_hasYealm, Cond.code yX0_hasYealm cX0_hasYealm 3 (some .boolean), Cond.methodLink RX0 47 yX0_thicknessAt, Cond.instanceMethod yX0_thicknessAt, Cond.selects RX0 yX0_thicknessAt yX0_thicknessAt, Cond.code yX0_thicknessAt cX0_thicknessAt 3 (some .int), Cond.fieldLink RX0 24 "ThatchRoof$Roof" "width" "I", Cond.methodLink RX0 61 yX0_numberOf, Cond.instanceMethod yX0_numberOf, Cond.selects RX0 yX0_numberOf yX0_numberOf, Cond.code yX0_numberOf cX0_numberOf 3 (some .int), Cond.methodLink RX0 69 yX0_isBare, Cond.instanceMethod yX0_isBare]
def wsX0_stormOn_r2 : List Cond := [Cond.selects RX0 yX0_isBare yX0_isBare, Cond.code yX0_isBare cX0_isBare 3 (some .boolean), Cond.methodLink RX0 55 yX0_isHighest, Cond.instanceMethod yX0_isHighest, Cond.selects RX0 yX0_isHighest yX0_isHighest, Cond.code yX0_isHighest cX0_isHighest 2 (some .boolean), Cond.methodLink RX0 120 yX0_isEnd, Cond.instanceMethod yX0_isEnd, Cond.selects RX0 yX0_isEnd yX0_isEnd, Cond.code yX0_isEnd cX0_isEnd 2 (some .boolean)]
def wsX0_stormOn : List Cond := .code yX0_stormOn cX0_stormOn 5 (some .int) :: ((wsX0_stormOn_r1 ++ wsX0_stormOn_r2) ++ wsX00)
def wsX0_liveMonthAt_r1 : List Cond := [Cond.fieldLink RX0 85 "ThatchRoof$Roof" "worn" "I", Cond.fieldLink RX0 82 "ThatchRoof$Roof" "torn" "I", Cond.methodLink RX0 100 yX0_rainOn, Cond.instanceMethod yX0_rainOn, Cond.selects RX0 yX0_rainOn yX0_rainOn, Cond.initialized RX0, Cond.code yX0_rainOn cX0_rainOn 6 (some .int), Cond.fieldLink RX0 28 "ThatchRoof$Roof" "courses" "I", Cond.fieldLink RX0 15 "ThatchRoof$Roof" "thicknesses" "[I", Cond.methodLink RX0 110 Lib.Math.max.name, Cond.static Lib.Math.max.name, Cond.initialized "java/lang/Math", Cond.code Lib.Math.max.name Lib.Math.max.code 2 (some .int), Cond.methodLink RX0 51 yX0_hasYealm, Cond.instanceMethod yX0_hasYealm, Cond.selects RX0 yX0_hasYealm yX0_hasYealm, Cond.code yX0_hasYealm cX0_hasYealm 3 (some .boolean), Cond.methodLink RX0 47 yX0_thicknessAt, Cond.instanceMethod yX0_thicknessAt, Cond.selects RX0 yX0_thicknessAt yX0_thicknessAt, Cond.code yX0_thicknessAt cX0_thicknessAt 3 (some .int), Cond.fieldLink RX0 24 "ThatchRoof$Roof" "width" "I", Cond.methodLink RX0 61 yX0_numberOf, Cond.instanceMethod yX0_numberOf]
def wsX0_liveMonthAt_r2 : List Cond := [Cond.selects RX0 yX0_numberOf yX0_numberOf, Cond.code yX0_numberOf cX0_numberOf 3 (some .int), Cond.methodLink RX0 113 yX0_wearBy, Cond.instanceMethod yX0_wearBy, Cond.selects RX0 yX0_wearBy yX0_wearBy, Cond.code yX0_wearBy cX0_wearBy 6 (some .int), Cond.fieldLink RX0 21 "ThatchRoof$Roof" "mosses" "[I", Cond.fieldLink RX0 31 "ThatchRoof$Roof" "slope" "I", Cond.fieldLink RX0 9 "ThatchRoof$Roof" "kinds" "[I", Cond.methodLink RX0 69 yX0_isBare, Cond.instanceMethod yX0_isBare, Cond.selects RX0 yX0_isBare yX0_isBare, Cond.code yX0_isBare cX0_isBare 3 (some .boolean), Cond.methodLink RX0 55 yX0_isHighest, Cond.instanceMethod yX0_isHighest, Cond.selects RX0 yX0_isHighest yX0_isHighest, Cond.code yX0_isHighest cX0_isHighest 2 (some .boolean), Cond.methodLink RX0 103 yX0_growMoss, Cond.instanceMethod yX0_growMoss, Cond.selects RX0 yX0_growMoss yX0_growMoss, Cond.code yX0_growMoss cX0_growMoss 5 none, Cond.methodLink RX0 64 Lib.Math.min.name, Cond.static Lib.Math.min.name, Cond.code Lib.Math.min.name Lib.Math.min.code 2 (some .int)]
def wsX0_liveMonthAt_r3 : List Cond := [Cond.methodLink RX0 107 yX0_stormOn, Cond.instanceMethod yX0_stormOn, Cond.selects RX0 yX0_stormOn yX0_stormOn, Cond.code yX0_stormOn cX0_stormOn 5 (some .int), Cond.methodLink RX0 116 yX0_wouldTear, Cond.instanceMethod yX0_wouldTear, Cond.selects RX0 yX0_wouldTear yX0_wouldTear, Cond.code yX0_wouldTear cX0_wouldTear 7 (some .boolean), Cond.fieldLink RX0 18 "ThatchRoof$Roof" "spars" "[I", Cond.fieldLink RX0 34 "ThatchRoof$Roof" "ridge" "I", Cond.methodLink RX0 120 yX0_isEnd, Cond.instanceMethod yX0_isEnd, Cond.selects RX0 yX0_isEnd yX0_isEnd, Cond.code yX0_isEnd cX0_isEnd 2 (some .boolean)]
def wsX0_liveMonthAt : List Cond := .code yX0_liveMonthAt cX0_liveMonthAt 6 (some .int) :: ((wsX0_liveMonthAt_r1 ++ (wsX0_liveMonthAt_r2 ++ wsX0_liveMonthAt_r3)) ++ wsX00)
def wsX0_wearRidge : List Cond := .code yX0_wearRidge cX0_wearRidge 2 none :: ([.fieldLink RX0 34 "ThatchRoof$Roof" "ridge" "I", .methodLink RX0 110 Lib.Math.max.name, .static Lib.Math.max.name, .initialized "java/lang/Math", .code Lib.Math.max.name Lib.Math.max.code 2 (some .int)] ++ wsX00)
def wsX0_liveMonth_r1 : List Cond := [Cond.fieldLink RX0 24 "ThatchRoof$Roof" "width" "I", Cond.methodLink RX0 92 yX0_liveMonthAt, Cond.instanceMethod yX0_liveMonthAt, Cond.selects RX0 yX0_liveMonthAt yX0_liveMonthAt, Cond.initialized RX0, Cond.code yX0_liveMonthAt cX0_liveMonthAt 6 (some .int), Cond.fieldLink RX0 85 "ThatchRoof$Roof" "worn" "I", Cond.fieldLink RX0 82 "ThatchRoof$Roof" "torn" "I", Cond.methodLink RX0 100 yX0_rainOn, Cond.instanceMethod yX0_rainOn, Cond.selects RX0 yX0_rainOn yX0_rainOn, Cond.code yX0_rainOn cX0_rainOn 6 (some .int), Cond.fieldLink RX0 28 "ThatchRoof$Roof" "courses" "I", Cond.fieldLink RX0 15 "ThatchRoof$Roof" "thicknesses" "[I", Cond.methodLink RX0 110 Lib.Math.max.name, Cond.static Lib.Math.max.name, Cond.initialized "java/lang/Math", Cond.code Lib.Math.max.name Lib.Math.max.code 2 (some .int), Cond.methodLink RX0 51 yX0_hasYealm, Cond.instanceMethod yX0_hasYealm, Cond.selects RX0 yX0_hasYealm yX0_hasYealm, Cond.code yX0_hasYealm cX0_hasYealm 3 (some .boolean), Cond.methodLink RX0 47 yX0_thicknessAt, Cond.instanceMethod yX0_thicknessAt]
def wsX0_liveMonth_r2 : List Cond := [Cond.selects RX0 yX0_thicknessAt yX0_thicknessAt, Cond.code yX0_thicknessAt cX0_thicknessAt 3 (some .int), Cond.methodLink RX0 61 yX0_numberOf, Cond.instanceMethod yX0_numberOf, Cond.selects RX0 yX0_numberOf yX0_numberOf, Cond.code yX0_numberOf cX0_numberOf 3 (some .int), Cond.methodLink RX0 113 yX0_wearBy, Cond.instanceMethod yX0_wearBy, Cond.selects RX0 yX0_wearBy yX0_wearBy, Cond.code yX0_wearBy cX0_wearBy 6 (some .int), Cond.fieldLink RX0 21 "ThatchRoof$Roof" "mosses" "[I", Cond.fieldLink RX0 31 "ThatchRoof$Roof" "slope" "I", Cond.fieldLink RX0 9 "ThatchRoof$Roof" "kinds" "[I", Cond.methodLink RX0 69 yX0_isBare, Cond.instanceMethod yX0_isBare, Cond.selects RX0 yX0_isBare yX0_isBare, Cond.code yX0_isBare cX0_isBare 3 (some .boolean), Cond.methodLink RX0 55 yX0_isHighest, Cond.instanceMethod yX0_isHighest, Cond.selects RX0 yX0_isHighest yX0_isHighest, Cond.code yX0_isHighest cX0_isHighest 2 (some .boolean), Cond.methodLink RX0 103 yX0_growMoss, Cond.instanceMethod yX0_growMoss, Cond.selects RX0 yX0_growMoss yX0_growMoss]
def wsX0_liveMonth_r3 : List Cond := [Cond.code yX0_growMoss cX0_growMoss 5 none, Cond.methodLink RX0 64 Lib.Math.min.name, Cond.static Lib.Math.min.name, Cond.code Lib.Math.min.name Lib.Math.min.code 2 (some .int), Cond.methodLink RX0 107 yX0_stormOn, Cond.instanceMethod yX0_stormOn, Cond.selects RX0 yX0_stormOn yX0_stormOn, Cond.code yX0_stormOn cX0_stormOn 5 (some .int), Cond.methodLink RX0 116 yX0_wouldTear, Cond.instanceMethod yX0_wouldTear, Cond.selects RX0 yX0_wouldTear yX0_wouldTear, Cond.code yX0_wouldTear cX0_wouldTear 7 (some .boolean), Cond.fieldLink RX0 18 "ThatchRoof$Roof" "spars" "[I", Cond.fieldLink RX0 34 "ThatchRoof$Roof" "ridge" "I", Cond.methodLink RX0 120 yX0_isEnd, Cond.instanceMethod yX0_isEnd, Cond.selects RX0 yX0_isEnd yX0_isEnd, Cond.code yX0_isEnd cX0_isEnd 2 (some .boolean), Cond.methodLink RX0 96 yX0_wearRidge, Cond.instanceMethod yX0_wearRidge, Cond.selects RX0 yX0_wearRidge yX0_wearRidge, Cond.code yX0_wearRidge cX0_wearRidge 2 none]
def wsX0_liveMonth : List Cond := .code yX0_liveMonth cX0_liveMonth 5 (some .int) :: ((wsX0_liveMonth_r1 ++ (wsX0_liveMonth_r2 ++ wsX0_liveMonth_r3)) ++ wsX00)
def wsX0_wouldTearInAll_r1 : List Cond := [Cond.fieldLink RX0 28 "ThatchRoof$Roof" "courses" "I", Cond.fieldLink RX0 24 "ThatchRoof$Roof" "width" "I", Cond.methodLink RX0 116 yX0_wouldTear, Cond.instanceMethod yX0_wouldTear, Cond.selects RX0 yX0_wouldTear yX0_wouldTear, Cond.initialized RX0, Cond.code yX0_wouldTear cX0_wouldTear 7 (some .boolean), Cond.fieldLink RX0 18 "ThatchRoof$Roof" "spars" "[I", Cond.fieldLink RX0 15 "ThatchRoof$Roof" "thicknesses" "[I", Cond.fieldLink RX0 34 "ThatchRoof$Roof" "ridge" "I", Cond.methodLink RX0 51 yX0_hasYealm, Cond.instanceMethod yX0_hasYealm, Cond.selects RX0 yX0_hasYealm yX0_hasYealm, Cond.code yX0_hasYealm cX0_hasYealm 3 (some .boolean), Cond.methodLink RX0 47 yX0_thicknessAt, Cond.instanceMethod yX0_thicknessAt, Cond.selects RX0 yX0_thicknessAt yX0_thicknessAt, Cond.code yX0_thicknessAt cX0_thicknessAt 3 (some .int), Cond.methodLink RX0 61 yX0_numberOf, Cond.instanceMethod yX0_numberOf, Cond.selects RX0 yX0_numberOf yX0_numberOf, Cond.code yX0_numberOf cX0_numberOf 3 (some .int), Cond.methodLink RX0 69 yX0_isBare, Cond.instanceMethod yX0_isBare]
def wsX0_wouldTearInAll_r2 : List Cond := [Cond.selects RX0 yX0_isBare yX0_isBare, Cond.code yX0_isBare cX0_isBare 3 (some .boolean), Cond.methodLink RX0 55 yX0_isHighest, Cond.instanceMethod yX0_isHighest, Cond.selects RX0 yX0_isHighest yX0_isHighest, Cond.code yX0_isHighest cX0_isHighest 2 (some .boolean), Cond.methodLink RX0 120 yX0_isEnd, Cond.instanceMethod yX0_isEnd, Cond.selects RX0 yX0_isEnd yX0_isEnd, Cond.code yX0_isEnd cX0_isEnd 2 (some .boolean)]
def wsX0_wouldTearInAll : List Cond := .code yX0_wouldTearInAll cX0_wouldTearInAll 5 (some .int) :: ((wsX0_wouldTearInAll_r1 ++ wsX0_wouldTearInAll_r2) ++ wsX00)
def wsX1_init : List Cond := .code yX1_init cX1_init 2 none :: ([.methodLink RX1 3 objectInit, .instanceMethod objectInit, .code objectInit ⟨#[0xb1]⟩ 1 none, .classLink RX1 9 RX0, .fieldLink RX1 11 "ThatchRoof" "roofs" "[LThatchRoof$Roof;", .arrayClass .int, .fieldLink RX1 15 "ThatchRoof" "barn" "[I", .fieldLink RX1 19 "ThatchRoof" "rains" "[I", .fieldLink RX1 22 "ThatchRoof" "storms" "[I", .instantiable RX0 10, .initialized RX0, .fieldLink RX1 28 "ThatchRoof" "trial" "LThatchRoof$Roof;", .methodLink RX1 25 yX0_init, .instanceMethod yX0_init, .code yX0_init cX0_init 4 none, .methodLink RX0 3 objectInit, .fieldLink RX0 9 "ThatchRoof$Roof" "kinds" "[I", .fieldLink RX0 15 "ThatchRoof$Roof" "thicknesses" "[I", .fieldLink RX0 18 "ThatchRoof$Roof" "spars" "[I", .fieldLink RX0 21 "ThatchRoof$Roof" "mosses" "[I", .fieldLink RX0 24 "ThatchRoof$Roof" "width" "I", .fieldLink RX0 28 "ThatchRoof$Roof" "courses" "I", .fieldLink RX0 31 "ThatchRoof$Roof" "slope" "I", .fieldLink RX0 34 "ThatchRoof$Roof" "ridge" "I"] ++ wsX10 ++ wsX00)
def wsX1_isWithin : List Cond := .code yX1_isWithin cX1_isWithin 3 (some .boolean) :: ([])
def wsX1_build_r1 : List Cond := [Cond.classLink RX1 36 "java/lang/IllegalArgumentException", Cond.initialized "java/lang/IllegalArgumentException", Cond.classLink RX1 47 "java/lang/IllegalStateException", Cond.initialized "java/lang/IllegalStateException", Cond.fieldLink RX1 43 "ThatchRoof" "built" "I", Cond.fieldLink RX1 11 "ThatchRoof" "roofs" "[LThatchRoof$Roof;", Cond.classLink RX1 9 RX0, Cond.instantiable RX0 10, Cond.initialized RX0, Cond.methodLink RX1 32 yX1_isWithin, Cond.static yX1_isWithin, Cond.initialized RX1, Cond.code yX1_isWithin cX1_isWithin 3 (some .boolean), Cond.methodLink RX1 25 yX0_init, Cond.instanceMethod yX0_init, Cond.code yX0_init cX0_init 4 none, Cond.methodLink RX0 3 objectInit, Cond.instanceMethod objectInit, Cond.code objectInit ⟨#[0xb1]⟩ 1 none, Cond.arrayClass .int, Cond.fieldLink RX0 9 "ThatchRoof$Roof" "kinds" "[I", Cond.fieldLink RX0 15 "ThatchRoof$Roof" "thicknesses" "[I", Cond.fieldLink RX0 18 "ThatchRoof$Roof" "spars" "[I", Cond.fieldLink RX0 21 "ThatchRoof$Roof" "mosses" "[I"]
def wsX1_build_r2 : List Cond := [Cond.fieldLink RX0 24 "ThatchRoof$Roof" "width" "I", Cond.fieldLink RX0 28 "ThatchRoof$Roof" "courses" "I", Cond.fieldLink RX0 31 "ThatchRoof$Roof" "slope" "I", Cond.fieldLink RX0 34 "ThatchRoof$Roof" "ridge" "I"]
def wsX1_build : List Cond := .code yX1_build cX1_build 5 (some .int) :: ((wsX1_build_r1 ++ wsX1_build_r2) ++ wsX10 ++ wsX00 ++ (vx_atS RX1 40 "java/lang/IllegalArgumentException" ["java/lang/RuntimeException", "java/lang/Exception"]).filter goodWord ++ (vx_atS RX1 51 "java/lang/IllegalStateException" ["java/lang/RuntimeException", "java/lang/Exception"]).filter goodWord)
def wsX1_isKind : List Cond := .code yX1_isKind cX1_isKind 1 (some .boolean) :: ([.methodLink RX1 32 yX1_isWithin, .static yX1_isWithin, .initialized RX1, .code yX1_isWithin cX1_isWithin 3 (some .boolean)])
def wsX1_bring : List Cond := .code yX1_bring cX1_bring 3 (some .int) :: ([.classLink RX1 56 "java/lang/IndexOutOfBoundsException", .initialized "java/lang/IndexOutOfBoundsException", .classLink RX1 36 "java/lang/IllegalArgumentException", .initialized "java/lang/IllegalArgumentException", .classLink RX1 47 "java/lang/IllegalStateException", .initialized "java/lang/IllegalStateException", .fieldLink RX1 15 "ThatchRoof" "barn" "[I", .methodLink RX1 52 yX1_isKind, .static yX1_isKind, .initialized RX1, .code yX1_isKind cX1_isKind 1 (some .boolean), .methodLink RX1 32 yX1_isWithin, .static yX1_isWithin, .code yX1_isWithin cX1_isWithin 3 (some .boolean)] ++ wsX10 ++ (vx_atS RX1 60 "java/lang/IndexOutOfBoundsException" ["java/lang/RuntimeException", "java/lang/Exception"]).filter goodWord ++ (vx_atS RX1 40 "java/lang/IllegalArgumentException" ["java/lang/RuntimeException", "java/lang/Exception"]).filter goodWord ++ (vx_atS RX1 51 "java/lang/IllegalStateException" ["java/lang/RuntimeException", "java/lang/Exception"]).filter goodWord)
def wsX1_setWeather : List Cond := .code yX1_setWeather cX1_setWeather 5 (some .int) :: ([.classLink RX1 56 "java/lang/IndexOutOfBoundsException", .initialized "java/lang/IndexOutOfBoundsException", .classLink RX1 36 "java/lang/IllegalArgumentException", .initialized "java/lang/IllegalArgumentException", .fieldLink RX1 19 "ThatchRoof" "rains" "[I", .fieldLink RX1 22 "ThatchRoof" "storms" "[I", .methodLink RX1 32 yX1_isWithin, .static yX1_isWithin, .initialized RX1, .code yX1_isWithin cX1_isWithin 3 (some .boolean)] ++ wsX10 ++ (vx_atS RX1 60 "java/lang/IndexOutOfBoundsException" ["java/lang/RuntimeException", "java/lang/Exception"]).filter goodWord ++ (vx_atS RX1 40 "java/lang/IllegalArgumentException" ["java/lang/RuntimeException", "java/lang/Exception"]).filter goodWord)
def wsX1_roofAt : List Cond := .code yX1_roofAt cX1_roofAt 2 (some (.object "ThatchRoof$Roof")) :: ([.fieldLink RX1 11 "ThatchRoof" "roofs" "[LThatchRoof$Roof;", .methodLink RX1 32 yX1_isWithin, .static yX1_isWithin, .initialized RX1, .code yX1_isWithin cX1_isWithin 3 (some .boolean)] ++ wsX10)
def wsX1_isYealm : List Cond := .code yX1_isYealm cX1_isYealm 2 (some .boolean) :: ([.methodLink RX1 32 yX1_isWithin, .static yX1_isWithin, .initialized RX1, .code yX1_isWithin cX1_isWithin 3 (some .boolean)])
def wsX1_bundlesFor : List Cond := .code yX1_bundlesFor cX1_bundlesFor 1 (some .int) :: ([])
def wsX1_lay_r1 : List Cond := [Cond.classLink RX1 56 "java/lang/IndexOutOfBoundsException", Cond.initialized "java/lang/IndexOutOfBoundsException", Cond.classLink RX1 36 "java/lang/IllegalArgumentException", Cond.initialized "java/lang/IllegalArgumentException", Cond.classLink RX1 47 "java/lang/IllegalStateException", Cond.initialized "java/lang/IllegalStateException", Cond.fieldLink RX1 15 "ThatchRoof" "barn" "[I", Cond.methodLink RX1 69 yX1_roofAt, Cond.instanceMethod yX1_roofAt, Cond.selects RX1 yX1_roofAt yX1_roofAt, Cond.initialized RX1, Cond.code yX1_roofAt cX1_roofAt 2 (some (.object "ThatchRoof$Roof")), Cond.fieldLink RX1 11 "ThatchRoof" "roofs" "[LThatchRoof$Roof;", Cond.methodLink RX1 32 yX1_isWithin, Cond.static yX1_isWithin, Cond.code yX1_isWithin cX1_isWithin 3 (some .boolean), Cond.methodLink RX1 73 yX0_hasPlace, Cond.instanceMethod yX0_hasPlace, Cond.selects RX0 yX0_hasPlace yX0_hasPlace, Cond.initialized RX0, Cond.code yX0_hasPlace cX0_hasPlace 3 (some .boolean), Cond.fieldLink RX0 24 "ThatchRoof$Roof" "width" "I", Cond.methodLink RX0 43 yX0_hasCourse, Cond.instanceMethod yX0_hasCourse]
def wsX1_lay_r2 : List Cond := [Cond.selects RX0 yX0_hasCourse yX0_hasCourse, Cond.code yX0_hasCourse cX0_hasCourse 2 (some .boolean), Cond.fieldLink RX0 28 "ThatchRoof$Roof" "courses" "I", Cond.methodLink RX1 52 yX1_isKind, Cond.static yX1_isKind, Cond.code yX1_isKind cX1_isKind 1 (some .boolean), Cond.methodLink RX1 79 yX1_isYealm, Cond.static yX1_isYealm, Cond.code yX1_isYealm cX1_isYealm 2 (some .boolean), Cond.methodLink RX1 84 yX0_canCarry, Cond.instanceMethod yX0_canCarry, Cond.selects RX0 yX0_canCarry yX0_canCarry, Cond.code yX0_canCarry cX0_canCarry 3 (some .boolean), Cond.methodLink RX0 51 yX0_hasYealm, Cond.instanceMethod yX0_hasYealm, Cond.selects RX0 yX0_hasYealm yX0_hasYealm, Cond.code yX0_hasYealm cX0_hasYealm 3 (some .boolean), Cond.methodLink RX0 47 yX0_thicknessAt, Cond.instanceMethod yX0_thicknessAt, Cond.selects RX0 yX0_thicknessAt yX0_thicknessAt, Cond.code yX0_thicknessAt cX0_thicknessAt 3 (some .int), Cond.fieldLink RX0 15 "ThatchRoof$Roof" "thicknesses" "[I", Cond.methodLink RX1 87 yX1_bundlesFor, Cond.static yX1_bundlesFor]
def wsX1_lay_r3 : List Cond := [Cond.code yX1_bundlesFor cX1_bundlesFor 1 (some .int), Cond.methodLink RX1 93 yX0_putYealm, Cond.instanceMethod yX0_putYealm, Cond.selects RX0 yX0_putYealm yX0_putYealm, Cond.code yX0_putYealm cX0_putYealm 7 none, Cond.fieldLink RX0 9 "ThatchRoof$Roof" "kinds" "[I", Cond.fieldLink RX0 18 "ThatchRoof$Roof" "spars" "[I", Cond.fieldLink RX0 21 "ThatchRoof$Roof" "mosses" "[I", Cond.methodLink RX0 58 yX0_hasPlace, Cond.methodLink RX0 61 yX0_numberOf, Cond.instanceMethod yX0_numberOf, Cond.selects RX0 yX0_numberOf yX0_numberOf, Cond.code yX0_numberOf cX0_numberOf 3 (some .int)]
def wsX1_lay : List Cond := .code yX1_lay cX1_lay 8 (some .int) :: ((wsX1_lay_r1 ++ (wsX1_lay_r2 ++ wsX1_lay_r3)) ++ wsX10 ++ wsX00 ++ (vx_atS RX1 60 "java/lang/IndexOutOfBoundsException" ["java/lang/RuntimeException", "java/lang/Exception"]).filter goodWord ++ (vx_atS RX1 40 "java/lang/IllegalArgumentException" ["java/lang/RuntimeException", "java/lang/Exception"]).filter goodWord ++ (vx_atS RX1 51 "java/lang/IllegalStateException" ["java/lang/RuntimeException", "java/lang/Exception"]).filter goodWord)
def wsX1_layCourse_r1 : List Cond := [Cond.classLink RX1 56 "java/lang/IndexOutOfBoundsException", Cond.initialized "java/lang/IndexOutOfBoundsException", Cond.classLink RX1 36 "java/lang/IllegalArgumentException", Cond.initialized "java/lang/IllegalArgumentException", Cond.fieldLink RX1 15 "ThatchRoof" "barn" "[I", Cond.methodLink RX1 69 yX1_roofAt, Cond.instanceMethod yX1_roofAt, Cond.selects RX1 yX1_roofAt yX1_roofAt, Cond.initialized RX1, Cond.code yX1_roofAt cX1_roofAt 2 (some (.object "ThatchRoof$Roof")), Cond.fieldLink RX1 11 "ThatchRoof" "roofs" "[LThatchRoof$Roof;", Cond.methodLink RX1 32 yX1_isWithin, Cond.static yX1_isWithin, Cond.code yX1_isWithin cX1_isWithin 3 (some .boolean), Cond.methodLink RX1 97 yX0_hasCourse, Cond.instanceMethod yX0_hasCourse, Cond.selects RX0 yX0_hasCourse yX0_hasCourse, Cond.initialized RX0, Cond.code yX0_hasCourse cX0_hasCourse 2 (some .boolean), Cond.fieldLink RX0 28 "ThatchRoof$Roof" "courses" "I", Cond.methodLink RX1 52 yX1_isKind, Cond.static yX1_isKind, Cond.code yX1_isKind cX1_isKind 1 (some .boolean), Cond.methodLink RX1 79 yX1_isYealm]
def wsX1_layCourse_r2 : List Cond := [Cond.static yX1_isYealm, Cond.code yX1_isYealm cX1_isYealm 2 (some .boolean), Cond.methodLink RX1 102 yX0_wide, Cond.instanceMethod yX0_wide, Cond.selects RX0 yX0_wide yX0_wide, Cond.code yX0_wide cX0_wide 1 (some .int), Cond.fieldLink RX0 24 "ThatchRoof$Roof" "width" "I", Cond.methodLink RX1 84 yX0_canCarry, Cond.instanceMethod yX0_canCarry, Cond.selects RX0 yX0_canCarry yX0_canCarry, Cond.code yX0_canCarry cX0_canCarry 3 (some .boolean), Cond.methodLink RX0 51 yX0_hasYealm, Cond.instanceMethod yX0_hasYealm, Cond.selects RX0 yX0_hasYealm yX0_hasYealm, Cond.code yX0_hasYealm cX0_hasYealm 3 (some .boolean), Cond.methodLink RX0 47 yX0_thicknessAt, Cond.instanceMethod yX0_thicknessAt, Cond.selects RX0 yX0_thicknessAt yX0_thicknessAt, Cond.code yX0_thicknessAt cX0_thicknessAt 3 (some .int), Cond.fieldLink RX0 15 "ThatchRoof$Roof" "thicknesses" "[I", Cond.methodLink RX1 87 yX1_bundlesFor, Cond.static yX1_bundlesFor, Cond.code yX1_bundlesFor cX1_bundlesFor 1 (some .int), Cond.methodLink RX1 93 yX0_putYealm]
def wsX1_layCourse_r3 : List Cond := [Cond.instanceMethod yX0_putYealm, Cond.selects RX0 yX0_putYealm yX0_putYealm, Cond.code yX0_putYealm cX0_putYealm 7 none, Cond.fieldLink RX0 9 "ThatchRoof$Roof" "kinds" "[I", Cond.fieldLink RX0 18 "ThatchRoof$Roof" "spars" "[I", Cond.fieldLink RX0 21 "ThatchRoof$Roof" "mosses" "[I", Cond.methodLink RX0 58 yX0_hasPlace, Cond.instanceMethod yX0_hasPlace, Cond.selects RX0 yX0_hasPlace yX0_hasPlace, Cond.code yX0_hasPlace cX0_hasPlace 3 (some .boolean), Cond.methodLink RX0 43 yX0_hasCourse, Cond.methodLink RX0 61 yX0_numberOf, Cond.instanceMethod yX0_numberOf, Cond.selects RX0 yX0_numberOf yX0_numberOf, Cond.code yX0_numberOf cX0_numberOf 3 (some .int)]
def wsX1_layCourse : List Cond := .code yX1_layCourse cX1_layCourse 9 (some .int) :: ((wsX1_layCourse_r1 ++ (wsX1_layCourse_r2 ++ wsX1_layCourse_r3)) ++ wsX10 ++ wsX00 ++ (vx_atS RX1 60 "java/lang/IndexOutOfBoundsException" ["java/lang/RuntimeException", "java/lang/Exception"]).filter goodWord ++ (vx_atS RX1 40 "java/lang/IllegalArgumentException" ["java/lang/RuntimeException", "java/lang/Exception"]).filter goodWord)
def wsX1_mend_r1 : List Cond := [Cond.classLink RX1 56 "java/lang/IndexOutOfBoundsException", Cond.initialized "java/lang/IndexOutOfBoundsException", Cond.classLink RX1 47 "java/lang/IllegalStateException", Cond.initialized "java/lang/IllegalStateException", Cond.fieldLink RX1 15 "ThatchRoof" "barn" "[I", Cond.methodLink RX1 69 yX1_roofAt, Cond.instanceMethod yX1_roofAt, Cond.selects RX1 yX1_roofAt yX1_roofAt, Cond.initialized RX1, Cond.code yX1_roofAt cX1_roofAt 2 (some (.object "ThatchRoof$Roof")), Cond.fieldLink RX1 11 "ThatchRoof" "roofs" "[LThatchRoof$Roof;", Cond.methodLink RX1 32 yX1_isWithin, Cond.static yX1_isWithin, Cond.code yX1_isWithin cX1_isWithin 3 (some .boolean), Cond.methodLink RX1 73 yX0_hasPlace, Cond.instanceMethod yX0_hasPlace, Cond.selects RX0 yX0_hasPlace yX0_hasPlace, Cond.initialized RX0, Cond.code yX0_hasPlace cX0_hasPlace 3 (some .boolean), Cond.fieldLink RX0 24 "ThatchRoof$Roof" "width" "I", Cond.methodLink RX0 43 yX0_hasCourse, Cond.instanceMethod yX0_hasCourse, Cond.selects RX0 yX0_hasCourse yX0_hasCourse, Cond.code yX0_hasCourse cX0_hasCourse 2 (some .boolean)]
def wsX1_mend_r2 : List Cond := [Cond.fieldLink RX0 28 "ThatchRoof$Roof" "courses" "I", Cond.methodLink RX1 108 yX0_kindAt, Cond.instanceMethod yX0_kindAt, Cond.selects RX0 yX0_kindAt yX0_kindAt, Cond.code yX0_kindAt cX0_kindAt 3 (some .int), Cond.fieldLink RX0 9 "ThatchRoof$Roof" "kinds" "[I", Cond.methodLink RX0 51 yX0_hasYealm, Cond.instanceMethod yX0_hasYealm, Cond.selects RX0 yX0_hasYealm yX0_hasYealm, Cond.code yX0_hasYealm cX0_hasYealm 3 (some .boolean), Cond.methodLink RX0 47 yX0_thicknessAt, Cond.instanceMethod yX0_thicknessAt, Cond.selects RX0 yX0_thicknessAt yX0_thicknessAt, Cond.code yX0_thicknessAt cX0_thicknessAt 3 (some .int), Cond.fieldLink RX0 15 "ThatchRoof$Roof" "thicknesses" "[I", Cond.methodLink RX0 61 yX0_numberOf, Cond.instanceMethod yX0_numberOf, Cond.selects RX0 yX0_numberOf yX0_numberOf, Cond.code yX0_numberOf cX0_numberOf 3 (some .int), Cond.methodLink RX1 52 yX1_isKind, Cond.static yX1_isKind, Cond.code yX1_isKind cX1_isKind 1 (some .boolean), Cond.methodLink RX1 114 yX0_improve, Cond.instanceMethod yX0_improve]
def wsX1_mend_r3 : List Cond := [Cond.selects RX0 yX0_improve yX0_improve, Cond.code yX0_improve cX0_improve 4 none, Cond.fieldLink RX0 21 "ThatchRoof$Roof" "mosses" "[I", Cond.fieldLink RX0 18 "ThatchRoof$Roof" "spars" "[I", Cond.methodLink RX0 64 Lib.Math.min.name, Cond.static Lib.Math.min.name, Cond.initialized "java/lang/Math", Cond.code Lib.Math.min.name Lib.Math.min.code 2 (some .int), Cond.methodLink RX1 118 yX0_thicknessAt]
def wsX1_mend : List Cond := .code yX1_mend cX1_mend 6 (some .int) :: ((wsX1_mend_r1 ++ (wsX1_mend_r2 ++ wsX1_mend_r3)) ++ wsX10 ++ wsX00 ++ (vx_atS RX1 60 "java/lang/IndexOutOfBoundsException" ["java/lang/RuntimeException", "java/lang/Exception"]).filter goodWord ++ (vx_atS RX1 51 "java/lang/IllegalStateException" ["java/lang/RuntimeException", "java/lang/Exception"]).filter goodWord)
def wsX1_bind_r1 : List Cond := [Cond.classLink RX1 56 "java/lang/IndexOutOfBoundsException", Cond.initialized "java/lang/IndexOutOfBoundsException", Cond.classLink RX1 47 "java/lang/IllegalStateException", Cond.initialized "java/lang/IllegalStateException", Cond.fieldLink RX1 15 "ThatchRoof" "barn" "[I", Cond.methodLink RX1 69 yX1_roofAt, Cond.instanceMethod yX1_roofAt, Cond.selects RX1 yX1_roofAt yX1_roofAt, Cond.initialized RX1, Cond.code yX1_roofAt cX1_roofAt 2 (some (.object "ThatchRoof$Roof")), Cond.fieldLink RX1 11 "ThatchRoof" "roofs" "[LThatchRoof$Roof;", Cond.methodLink RX1 32 yX1_isWithin, Cond.static yX1_isWithin, Cond.code yX1_isWithin cX1_isWithin 3 (some .boolean), Cond.methodLink RX1 102 yX0_wide, Cond.instanceMethod yX0_wide, Cond.selects RX0 yX0_wide yX0_wide, Cond.initialized RX0, Cond.code yX0_wide cX0_wide 1 (some .int), Cond.fieldLink RX0 24 "ThatchRoof$Roof" "width" "I", Cond.methodLink RX1 125 yX0_renewRidge, Cond.instanceMethod yX0_renewRidge, Cond.selects RX0 yX0_renewRidge yX0_renewRidge, Cond.code yX0_renewRidge cX0_renewRidge 2 (some .int)]
def wsX1_bind_r2 : List Cond := [Cond.fieldLink RX0 34 "ThatchRoof$Roof" "ridge" "I"]
def wsX1_bind : List Cond := .code yX1_bind cX1_bind 3 (some .int) :: ((wsX1_bind_r1 ++ wsX1_bind_r2) ++ wsX10 ++ wsX00 ++ (vx_atS RX1 60 "java/lang/IndexOutOfBoundsException" ["java/lang/RuntimeException", "java/lang/Exception"]).filter goodWord ++ (vx_atS RX1 51 "java/lang/IllegalStateException" ["java/lang/RuntimeException", "java/lang/Exception"]).filter goodWord)
def wsX1_yealm_r1 : List Cond := [Cond.classLink RX1 56 "java/lang/IndexOutOfBoundsException", Cond.initialized "java/lang/IndexOutOfBoundsException", Cond.methodLink RX1 69 yX1_roofAt, Cond.instanceMethod yX1_roofAt, Cond.selects RX1 yX1_roofAt yX1_roofAt, Cond.initialized RX1, Cond.code yX1_roofAt cX1_roofAt 2 (some (.object "ThatchRoof$Roof")), Cond.fieldLink RX1 11 "ThatchRoof" "roofs" "[LThatchRoof$Roof;", Cond.methodLink RX1 32 yX1_isWithin, Cond.static yX1_isWithin, Cond.code yX1_isWithin cX1_isWithin 3 (some .boolean), Cond.methodLink RX1 73 yX0_hasPlace, Cond.instanceMethod yX0_hasPlace, Cond.selects RX0 yX0_hasPlace yX0_hasPlace, Cond.initialized RX0, Cond.code yX0_hasPlace cX0_hasPlace 3 (some .boolean), Cond.fieldLink RX0 24 "ThatchRoof$Roof" "width" "I", Cond.methodLink RX0 43 yX0_hasCourse, Cond.instanceMethod yX0_hasCourse, Cond.selects RX0 yX0_hasCourse yX0_hasCourse, Cond.code yX0_hasCourse cX0_hasCourse 2 (some .boolean), Cond.fieldLink RX0 28 "ThatchRoof$Roof" "courses" "I", Cond.methodLink RX1 130 yX0_tellYealm, Cond.instanceMethod yX0_tellYealm]
def wsX1_yealm_r2 : List Cond := [Cond.selects RX0 yX0_tellYealm yX0_tellYealm, Cond.code yX0_tellYealm cX0_tellYealm 5 (some .int), Cond.fieldLink RX0 9 "ThatchRoof$Roof" "kinds" "[I", Cond.fieldLink RX0 15 "ThatchRoof$Roof" "thicknesses" "[I", Cond.fieldLink RX0 18 "ThatchRoof$Roof" "spars" "[I", Cond.fieldLink RX0 21 "ThatchRoof$Roof" "mosses" "[I", Cond.methodLink RX0 51 yX0_hasYealm, Cond.instanceMethod yX0_hasYealm, Cond.selects RX0 yX0_hasYealm yX0_hasYealm, Cond.code yX0_hasYealm cX0_hasYealm 3 (some .boolean), Cond.methodLink RX0 47 yX0_thicknessAt, Cond.instanceMethod yX0_thicknessAt, Cond.selects RX0 yX0_thicknessAt yX0_thicknessAt, Cond.code yX0_thicknessAt cX0_thicknessAt 3 (some .int), Cond.methodLink RX0 61 yX0_numberOf, Cond.instanceMethod yX0_numberOf, Cond.selects RX0 yX0_numberOf yX0_numberOf, Cond.code yX0_numberOf cX0_numberOf 3 (some .int), Cond.methodLink RX0 69 yX0_isBare, Cond.instanceMethod yX0_isBare, Cond.selects RX0 yX0_isBare yX0_isBare, Cond.code yX0_isBare cX0_isBare 3 (some .boolean), Cond.methodLink RX0 55 yX0_isHighest, Cond.instanceMethod yX0_isHighest]
def wsX1_yealm_r3 : List Cond := [Cond.selects RX0 yX0_isHighest yX0_isHighest, Cond.code yX0_isHighest cX0_isHighest 2 (some .boolean)]
def wsX1_yealm : List Cond := .code yX1_yealm cX1_yealm 6 (some .int) :: ((wsX1_yealm_r1 ++ (wsX1_yealm_r2 ++ wsX1_yealm_r3)) ++ wsX10 ++ wsX00 ++ (vx_atS RX1 60 "java/lang/IndexOutOfBoundsException" ["java/lang/RuntimeException", "java/lang/Exception"]).filter goodWord)
def wsX1_roof_r1 : List Cond := [Cond.classLink RX1 56 "java/lang/IndexOutOfBoundsException", Cond.initialized "java/lang/IndexOutOfBoundsException", Cond.methodLink RX1 69 yX1_roofAt, Cond.instanceMethod yX1_roofAt, Cond.selects RX1 yX1_roofAt yX1_roofAt, Cond.initialized RX1, Cond.code yX1_roofAt cX1_roofAt 2 (some (.object "ThatchRoof$Roof")), Cond.fieldLink RX1 11 "ThatchRoof" "roofs" "[LThatchRoof$Roof;", Cond.methodLink RX1 32 yX1_isWithin, Cond.static yX1_isWithin, Cond.code yX1_isWithin cX1_isWithin 3 (some .boolean), Cond.methodLink RX1 136 yX0_tell, Cond.instanceMethod yX0_tell, Cond.selects RX0 yX0_tell yX0_tell, Cond.initialized RX0, Cond.code yX0_tell cX0_tell 2 (some .int), Cond.fieldLink RX0 24 "ThatchRoof$Roof" "width" "I", Cond.fieldLink RX0 28 "ThatchRoof$Roof" "courses" "I", Cond.fieldLink RX0 31 "ThatchRoof$Roof" "slope" "I", Cond.fieldLink RX0 34 "ThatchRoof$Roof" "ridge" "I", Cond.fieldLink RX0 82 "ThatchRoof$Roof" "torn" "I", Cond.fieldLink RX0 85 "ThatchRoof$Roof" "worn" "I", Cond.methodLink RX0 72 yX0_yealms, Cond.instanceMethod yX0_yealms]
def wsX1_roof_r2 : List Cond := [Cond.selects RX0 yX0_yealms yX0_yealms, Cond.code yX0_yealms cX0_yealms 4 (some .int), Cond.methodLink RX0 51 yX0_hasYealm, Cond.instanceMethod yX0_hasYealm, Cond.selects RX0 yX0_hasYealm yX0_hasYealm, Cond.code yX0_hasYealm cX0_hasYealm 3 (some .boolean), Cond.methodLink RX0 47 yX0_thicknessAt, Cond.instanceMethod yX0_thicknessAt, Cond.selects RX0 yX0_thicknessAt yX0_thicknessAt, Cond.code yX0_thicknessAt cX0_thicknessAt 3 (some .int), Cond.fieldLink RX0 15 "ThatchRoof$Roof" "thicknesses" "[I", Cond.methodLink RX0 76 yX0_thicknessInAll, Cond.instanceMethod yX0_thicknessInAll, Cond.selects RX0 yX0_thicknessInAll yX0_thicknessInAll, Cond.code yX0_thicknessInAll cX0_thicknessInAll 3 (some .int), Cond.methodLink RX0 88 yX0_thicknessOver, Cond.instanceMethod yX0_thicknessOver, Cond.selects RX0 yX0_thicknessOver yX0_thicknessOver, Cond.code yX0_thicknessOver cX0_thicknessOver 4 (some .int), Cond.methodLink RX0 79 yX0_leaks, Cond.instanceMethod yX0_leaks, Cond.selects RX0 yX0_leaks yX0_leaks, Cond.code yX0_leaks cX0_leaks 3 (some .int)]
def wsX1_roof : List Cond := .code yX1_roof cX1_roof 4 (some .int) :: ((wsX1_roof_r1 ++ wsX1_roof_r2) ++ wsX10 ++ wsX00 ++ (vx_atS RX1 60 "java/lang/IndexOutOfBoundsException" ["java/lang/RuntimeException", "java/lang/Exception"]).filter goodWord)
def wsX1_tallyOfRoofs_r1 : List Cond := [Cond.fieldLink RX1 11 "ThatchRoof" "roofs" "[LThatchRoof$Roof;", Cond.methodLink RX1 136 yX0_tell, Cond.instanceMethod yX0_tell, Cond.selects RX0 yX0_tell yX0_tell, Cond.initialized RX0, Cond.code yX0_tell cX0_tell 2 (some .int), Cond.fieldLink RX0 24 "ThatchRoof$Roof" "width" "I", Cond.fieldLink RX0 28 "ThatchRoof$Roof" "courses" "I", Cond.fieldLink RX0 31 "ThatchRoof$Roof" "slope" "I", Cond.fieldLink RX0 34 "ThatchRoof$Roof" "ridge" "I", Cond.fieldLink RX0 82 "ThatchRoof$Roof" "torn" "I", Cond.fieldLink RX0 85 "ThatchRoof$Roof" "worn" "I", Cond.methodLink RX0 72 yX0_yealms, Cond.instanceMethod yX0_yealms, Cond.selects RX0 yX0_yealms yX0_yealms, Cond.code yX0_yealms cX0_yealms 4 (some .int), Cond.methodLink RX0 51 yX0_hasYealm, Cond.instanceMethod yX0_hasYealm, Cond.selects RX0 yX0_hasYealm yX0_hasYealm, Cond.code yX0_hasYealm cX0_hasYealm 3 (some .boolean), Cond.methodLink RX0 47 yX0_thicknessAt, Cond.instanceMethod yX0_thicknessAt, Cond.selects RX0 yX0_thicknessAt yX0_thicknessAt, Cond.code yX0_thicknessAt cX0_thicknessAt 3 (some .int)]
def wsX1_tallyOfRoofs_r2 : List Cond := [Cond.fieldLink RX0 15 "ThatchRoof$Roof" "thicknesses" "[I", Cond.methodLink RX0 76 yX0_thicknessInAll, Cond.instanceMethod yX0_thicknessInAll, Cond.selects RX0 yX0_thicknessInAll yX0_thicknessInAll, Cond.code yX0_thicknessInAll cX0_thicknessInAll 3 (some .int), Cond.methodLink RX0 88 yX0_thicknessOver, Cond.instanceMethod yX0_thicknessOver, Cond.selects RX0 yX0_thicknessOver yX0_thicknessOver, Cond.code yX0_thicknessOver cX0_thicknessOver 4 (some .int), Cond.methodLink RX0 79 yX0_leaks, Cond.instanceMethod yX0_leaks, Cond.selects RX0 yX0_leaks yX0_leaks, Cond.code yX0_leaks cX0_leaks 3 (some .int)]
def wsX1_tallyOfRoofs : List Cond := .code yX1_tallyOfRoofs cX1_tallyOfRoofs 5 (some .int) :: ((wsX1_tallyOfRoofs_r1 ++ wsX1_tallyOfRoofs_r2) ++ wsX10 ++ wsX00)
def wsJ9_floorMod_7cf53 : List Cond := .code yJ9_floorMod_7cf53 cJ9_floorMod_7cf53 3 (some .int) :: ([])
def wsX1_monthOfYear : List Cond := .code yX1_monthOfYear cX1_monthOfYear 2 (some .int) :: ([.fieldLink RX1 155 "ThatchRoof" "month" "I", .methodLink RX1 205 yJ9_floorMod_7cf53, .static yJ9_floorMod_7cf53, .initialized RJ9, .code yJ9_floorMod_7cf53 cJ9_floorMod_7cf53 3 (some .int)] ++ wsX10)
def wsX1_rainAhead : List Cond := .code yX1_rainAhead cX1_rainAhead 2 (some .int) :: ([.fieldLink RX1 19 "ThatchRoof" "rains" "[I", .methodLink RX1 210 yX1_monthOfYear, .instanceMethod yX1_monthOfYear, .selects RX1 yX1_monthOfYear yX1_monthOfYear, .initialized RX1, .code yX1_monthOfYear cX1_monthOfYear 2 (some .int), .fieldLink RX1 155 "ThatchRoof" "month" "I", .methodLink RX1 205 yJ9_floorMod_7cf53, .static yJ9_floorMod_7cf53, .initialized RJ9, .code yJ9_floorMod_7cf53 cJ9_floorMod_7cf53 3 (some .int)] ++ wsX10)
def wsX1_stormAhead : List Cond := .code yX1_stormAhead cX1_stormAhead 2 (some .int) :: ([.fieldLink RX1 22 "ThatchRoof" "storms" "[I", .methodLink RX1 210 yX1_monthOfYear, .instanceMethod yX1_monthOfYear, .selects RX1 yX1_monthOfYear yX1_monthOfYear, .initialized RX1, .code yX1_monthOfYear cX1_monthOfYear 2 (some .int), .fieldLink RX1 155 "ThatchRoof" "month" "I", .methodLink RX1 205 yJ9_floorMod_7cf53, .static yJ9_floorMod_7cf53, .initialized RJ9, .code yJ9_floorMod_7cf53 cJ9_floorMod_7cf53 3 (some .int)] ++ wsX10)
def wsX1_tally_r1 : List Cond := [Cond.fieldLink RX1 155 "ThatchRoof" "month" "I", Cond.fieldLink RX1 43 "ThatchRoof" "built" "I", Cond.fieldLink RX1 15 "ThatchRoof" "barn" "[I", Cond.methodLink RX1 213 yX1_tallyOfRoofs, Cond.instanceMethod yX1_tallyOfRoofs, Cond.selects RX1 yX1_tallyOfRoofs yX1_tallyOfRoofs, Cond.initialized RX1, Cond.code yX1_tallyOfRoofs cX1_tallyOfRoofs 5 (some .int), Cond.fieldLink RX1 11 "ThatchRoof" "roofs" "[LThatchRoof$Roof;", Cond.methodLink RX1 136 yX0_tell, Cond.instanceMethod yX0_tell, Cond.selects RX0 yX0_tell yX0_tell, Cond.initialized RX0, Cond.code yX0_tell cX0_tell 2 (some .int), Cond.fieldLink RX0 24 "ThatchRoof$Roof" "width" "I", Cond.fieldLink RX0 28 "ThatchRoof$Roof" "courses" "I", Cond.fieldLink RX0 31 "ThatchRoof$Roof" "slope" "I", Cond.fieldLink RX0 34 "ThatchRoof$Roof" "ridge" "I", Cond.fieldLink RX0 82 "ThatchRoof$Roof" "torn" "I", Cond.fieldLink RX0 85 "ThatchRoof$Roof" "worn" "I", Cond.methodLink RX0 72 yX0_yealms, Cond.instanceMethod yX0_yealms, Cond.selects RX0 yX0_yealms yX0_yealms, Cond.code yX0_yealms cX0_yealms 4 (some .int)]
def wsX1_tally_r2 : List Cond := [Cond.methodLink RX0 51 yX0_hasYealm, Cond.instanceMethod yX0_hasYealm, Cond.selects RX0 yX0_hasYealm yX0_hasYealm, Cond.code yX0_hasYealm cX0_hasYealm 3 (some .boolean), Cond.methodLink RX0 47 yX0_thicknessAt, Cond.instanceMethod yX0_thicknessAt, Cond.selects RX0 yX0_thicknessAt yX0_thicknessAt, Cond.code yX0_thicknessAt cX0_thicknessAt 3 (some .int), Cond.fieldLink RX0 15 "ThatchRoof$Roof" "thicknesses" "[I", Cond.methodLink RX0 76 yX0_thicknessInAll, Cond.instanceMethod yX0_thicknessInAll, Cond.selects RX0 yX0_thicknessInAll yX0_thicknessInAll, Cond.code yX0_thicknessInAll cX0_thicknessInAll 3 (some .int), Cond.methodLink RX0 88 yX0_thicknessOver, Cond.instanceMethod yX0_thicknessOver, Cond.selects RX0 yX0_thicknessOver yX0_thicknessOver, Cond.code yX0_thicknessOver cX0_thicknessOver 4 (some .int), Cond.methodLink RX0 79 yX0_leaks, Cond.instanceMethod yX0_leaks, Cond.selects RX0 yX0_leaks yX0_leaks, Cond.code yX0_leaks cX0_leaks 3 (some .int), Cond.methodLink RX1 146 yX1_rainAhead, Cond.instanceMethod yX1_rainAhead, Cond.selects RX1 yX1_rainAhead yX1_rainAhead]
def wsX1_tally_r3 : List Cond := [Cond.code yX1_rainAhead cX1_rainAhead 2 (some .int), Cond.fieldLink RX1 19 "ThatchRoof" "rains" "[I", Cond.methodLink RX1 210 yX1_monthOfYear, Cond.instanceMethod yX1_monthOfYear, Cond.selects RX1 yX1_monthOfYear yX1_monthOfYear, Cond.code yX1_monthOfYear cX1_monthOfYear 2 (some .int), Cond.methodLink RX1 205 yJ9_floorMod_7cf53, Cond.static yJ9_floorMod_7cf53, Cond.initialized RJ9, Cond.code yJ9_floorMod_7cf53 cJ9_floorMod_7cf53 3 (some .int), Cond.methodLink RX1 149 yX1_stormAhead, Cond.instanceMethod yX1_stormAhead, Cond.selects RX1 yX1_stormAhead yX1_stormAhead, Cond.code yX1_stormAhead cX1_stormAhead 2 (some .int), Cond.fieldLink RX1 22 "ThatchRoof" "storms" "[I"]
def wsX1_tally : List Cond := .code yX1_tally cX1_tally 2 (some .int) :: ((wsX1_tally_r1 ++ (wsX1_tally_r2 ++ wsX1_tally_r3)) ++ wsX10 ++ wsX00)
def wsX1_count_r1 : List Cond := [Cond.classLink RX1 56 "java/lang/IndexOutOfBoundsException", Cond.initialized "java/lang/IndexOutOfBoundsException", Cond.methodLink RX1 32 yX1_isWithin, Cond.static yX1_isWithin, Cond.initialized RX1, Cond.code yX1_isWithin cX1_isWithin 3 (some .boolean), Cond.methodLink RX1 141 yX1_tally, Cond.instanceMethod yX1_tally, Cond.selects RX1 yX1_tally yX1_tally, Cond.code yX1_tally cX1_tally 2 (some .int), Cond.fieldLink RX1 155 "ThatchRoof" "month" "I", Cond.fieldLink RX1 43 "ThatchRoof" "built" "I", Cond.fieldLink RX1 15 "ThatchRoof" "barn" "[I", Cond.methodLink RX1 213 yX1_tallyOfRoofs, Cond.instanceMethod yX1_tallyOfRoofs, Cond.selects RX1 yX1_tallyOfRoofs yX1_tallyOfRoofs, Cond.code yX1_tallyOfRoofs cX1_tallyOfRoofs 5 (some .int), Cond.fieldLink RX1 11 "ThatchRoof" "roofs" "[LThatchRoof$Roof;", Cond.methodLink RX1 136 yX0_tell, Cond.instanceMethod yX0_tell, Cond.selects RX0 yX0_tell yX0_tell, Cond.initialized RX0, Cond.code yX0_tell cX0_tell 2 (some .int), Cond.fieldLink RX0 24 "ThatchRoof$Roof" "width" "I"]
def wsX1_count_r2 : List Cond := [Cond.fieldLink RX0 28 "ThatchRoof$Roof" "courses" "I", Cond.fieldLink RX0 31 "ThatchRoof$Roof" "slope" "I", Cond.fieldLink RX0 34 "ThatchRoof$Roof" "ridge" "I", Cond.fieldLink RX0 82 "ThatchRoof$Roof" "torn" "I", Cond.fieldLink RX0 85 "ThatchRoof$Roof" "worn" "I", Cond.methodLink RX0 72 yX0_yealms, Cond.instanceMethod yX0_yealms, Cond.selects RX0 yX0_yealms yX0_yealms, Cond.code yX0_yealms cX0_yealms 4 (some .int), Cond.methodLink RX0 51 yX0_hasYealm, Cond.instanceMethod yX0_hasYealm, Cond.selects RX0 yX0_hasYealm yX0_hasYealm, Cond.code yX0_hasYealm cX0_hasYealm 3 (some .boolean), Cond.methodLink RX0 47 yX0_thicknessAt, Cond.instanceMethod yX0_thicknessAt, Cond.selects RX0 yX0_thicknessAt yX0_thicknessAt, Cond.code yX0_thicknessAt cX0_thicknessAt 3 (some .int), Cond.fieldLink RX0 15 "ThatchRoof$Roof" "thicknesses" "[I", Cond.methodLink RX0 76 yX0_thicknessInAll, Cond.instanceMethod yX0_thicknessInAll, Cond.selects RX0 yX0_thicknessInAll yX0_thicknessInAll, Cond.code yX0_thicknessInAll cX0_thicknessInAll 3 (some .int), Cond.methodLink RX0 88 yX0_thicknessOver, Cond.instanceMethod yX0_thicknessOver]
def wsX1_count_r3 : List Cond := [Cond.selects RX0 yX0_thicknessOver yX0_thicknessOver, Cond.code yX0_thicknessOver cX0_thicknessOver 4 (some .int), Cond.methodLink RX0 79 yX0_leaks, Cond.instanceMethod yX0_leaks, Cond.selects RX0 yX0_leaks yX0_leaks, Cond.code yX0_leaks cX0_leaks 3 (some .int), Cond.methodLink RX1 146 yX1_rainAhead, Cond.instanceMethod yX1_rainAhead, Cond.selects RX1 yX1_rainAhead yX1_rainAhead, Cond.code yX1_rainAhead cX1_rainAhead 2 (some .int), Cond.fieldLink RX1 19 "ThatchRoof" "rains" "[I", Cond.methodLink RX1 210 yX1_monthOfYear, Cond.instanceMethod yX1_monthOfYear, Cond.selects RX1 yX1_monthOfYear yX1_monthOfYear, Cond.code yX1_monthOfYear cX1_monthOfYear 2 (some .int), Cond.methodLink RX1 205 yJ9_floorMod_7cf53, Cond.static yJ9_floorMod_7cf53, Cond.initialized RJ9, Cond.code yJ9_floorMod_7cf53 cJ9_floorMod_7cf53 3 (some .int), Cond.methodLink RX1 149 yX1_stormAhead, Cond.instanceMethod yX1_stormAhead, Cond.selects RX1 yX1_stormAhead yX1_stormAhead, Cond.code yX1_stormAhead cX1_stormAhead 2 (some .int), Cond.fieldLink RX1 22 "ThatchRoof" "storms" "[I"]
def wsX1_count : List Cond := .code yX1_count cX1_count 2 (some .int) :: ((wsX1_count_r1 ++ (wsX1_count_r2 ++ wsX1_count_r3)) ++ wsX10 ++ wsX00 ++ (vx_atS RX1 60 "java/lang/IndexOutOfBoundsException" ["java/lang/RuntimeException", "java/lang/Exception"]).filter goodWord)
def wsX1_pass_r1 : List Cond := [Cond.classLink RX1 36 "java/lang/IllegalArgumentException", Cond.initialized "java/lang/IllegalArgumentException", Cond.fieldLink RX1 11 "ThatchRoof" "roofs" "[LThatchRoof$Roof;", Cond.fieldLink RX1 155 "ThatchRoof" "month" "I", Cond.methodLink RX1 32 yX1_isWithin, Cond.static yX1_isWithin, Cond.initialized RX1, Cond.code yX1_isWithin cX1_isWithin 3 (some .boolean), Cond.methodLink RX1 146 yX1_rainAhead, Cond.instanceMethod yX1_rainAhead, Cond.selects RX1 yX1_rainAhead yX1_rainAhead, Cond.code yX1_rainAhead cX1_rainAhead 2 (some .int), Cond.fieldLink RX1 19 "ThatchRoof" "rains" "[I", Cond.methodLink RX1 210 yX1_monthOfYear, Cond.instanceMethod yX1_monthOfYear, Cond.selects RX1 yX1_monthOfYear yX1_monthOfYear, Cond.code yX1_monthOfYear cX1_monthOfYear 2 (some .int), Cond.methodLink RX1 205 yJ9_floorMod_7cf53, Cond.static yJ9_floorMod_7cf53, Cond.initialized RJ9, Cond.code yJ9_floorMod_7cf53 cJ9_floorMod_7cf53 3 (some .int), Cond.methodLink RX1 149 yX1_stormAhead, Cond.instanceMethod yX1_stormAhead, Cond.selects RX1 yX1_stormAhead yX1_stormAhead]
def wsX1_pass_r2 : List Cond := [Cond.code yX1_stormAhead cX1_stormAhead 2 (some .int), Cond.fieldLink RX1 22 "ThatchRoof" "storms" "[I", Cond.methodLink RX1 152 yX0_liveMonth, Cond.instanceMethod yX0_liveMonth, Cond.selects RX0 yX0_liveMonth yX0_liveMonth, Cond.initialized RX0, Cond.code yX0_liveMonth cX0_liveMonth 5 (some .int), Cond.fieldLink RX0 24 "ThatchRoof$Roof" "width" "I", Cond.methodLink RX0 92 yX0_liveMonthAt, Cond.instanceMethod yX0_liveMonthAt, Cond.selects RX0 yX0_liveMonthAt yX0_liveMonthAt, Cond.code yX0_liveMonthAt cX0_liveMonthAt 6 (some .int), Cond.fieldLink RX0 85 "ThatchRoof$Roof" "worn" "I", Cond.fieldLink RX0 82 "ThatchRoof$Roof" "torn" "I", Cond.methodLink RX0 100 yX0_rainOn, Cond.instanceMethod yX0_rainOn, Cond.selects RX0 yX0_rainOn yX0_rainOn, Cond.code yX0_rainOn cX0_rainOn 6 (some .int), Cond.fieldLink RX0 28 "ThatchRoof$Roof" "courses" "I", Cond.fieldLink RX0 15 "ThatchRoof$Roof" "thicknesses" "[I", Cond.methodLink RX0 110 Lib.Math.max.name, Cond.static Lib.Math.max.name, Cond.initialized "java/lang/Math", Cond.code Lib.Math.max.name Lib.Math.max.code 2 (some .int)]
def wsX1_pass_r3 : List Cond := [Cond.methodLink RX0 51 yX0_hasYealm, Cond.instanceMethod yX0_hasYealm, Cond.selects RX0 yX0_hasYealm yX0_hasYealm, Cond.code yX0_hasYealm cX0_hasYealm 3 (some .boolean), Cond.methodLink RX0 47 yX0_thicknessAt, Cond.instanceMethod yX0_thicknessAt, Cond.selects RX0 yX0_thicknessAt yX0_thicknessAt, Cond.code yX0_thicknessAt cX0_thicknessAt 3 (some .int), Cond.methodLink RX0 61 yX0_numberOf, Cond.instanceMethod yX0_numberOf, Cond.selects RX0 yX0_numberOf yX0_numberOf, Cond.code yX0_numberOf cX0_numberOf 3 (some .int), Cond.methodLink RX0 113 yX0_wearBy, Cond.instanceMethod yX0_wearBy, Cond.selects RX0 yX0_wearBy yX0_wearBy, Cond.code yX0_wearBy cX0_wearBy 6 (some .int), Cond.fieldLink RX0 21 "ThatchRoof$Roof" "mosses" "[I", Cond.fieldLink RX0 31 "ThatchRoof$Roof" "slope" "I", Cond.fieldLink RX0 9 "ThatchRoof$Roof" "kinds" "[I", Cond.methodLink RX0 69 yX0_isBare, Cond.instanceMethod yX0_isBare, Cond.selects RX0 yX0_isBare yX0_isBare, Cond.code yX0_isBare cX0_isBare 3 (some .boolean), Cond.methodLink RX0 55 yX0_isHighest]
def wsX1_pass_r4 : List Cond := [Cond.instanceMethod yX0_isHighest, Cond.selects RX0 yX0_isHighest yX0_isHighest, Cond.code yX0_isHighest cX0_isHighest 2 (some .boolean), Cond.methodLink RX0 103 yX0_growMoss, Cond.instanceMethod yX0_growMoss, Cond.selects RX0 yX0_growMoss yX0_growMoss, Cond.code yX0_growMoss cX0_growMoss 5 none, Cond.methodLink RX0 64 Lib.Math.min.name, Cond.static Lib.Math.min.name, Cond.code Lib.Math.min.name Lib.Math.min.code 2 (some .int), Cond.methodLink RX0 107 yX0_stormOn, Cond.instanceMethod yX0_stormOn, Cond.selects RX0 yX0_stormOn yX0_stormOn, Cond.code yX0_stormOn cX0_stormOn 5 (some .int), Cond.methodLink RX0 116 yX0_wouldTear, Cond.instanceMethod yX0_wouldTear, Cond.selects RX0 yX0_wouldTear yX0_wouldTear, Cond.code yX0_wouldTear cX0_wouldTear 7 (some .boolean), Cond.fieldLink RX0 18 "ThatchRoof$Roof" "spars" "[I", Cond.fieldLink RX0 34 "ThatchRoof$Roof" "ridge" "I", Cond.methodLink RX0 120 yX0_isEnd, Cond.instanceMethod yX0_isEnd, Cond.selects RX0 yX0_isEnd yX0_isEnd, Cond.code yX0_isEnd cX0_isEnd 2 (some .boolean)]
def wsX1_pass_r5 : List Cond := [Cond.methodLink RX0 96 yX0_wearRidge, Cond.instanceMethod yX0_wearRidge, Cond.selects RX0 yX0_wearRidge yX0_wearRidge, Cond.code yX0_wearRidge cX0_wearRidge 2 none]
def wsX1_pass : List Cond := .code yX1_pass cX1_pass 6 (some .int) :: ((wsX1_pass_r1 ++ (wsX1_pass_r2 ++ (wsX1_pass_r3 ++ (wsX1_pass_r4 ++ wsX1_pass_r5)))) ++ wsX10 ++ wsX00 ++ (vx_atS RX1 40 "java/lang/IllegalArgumentException" ["java/lang/RuntimeException", "java/lang/Exception"]).filter goodWord)
def wsX1_tears_r1 : List Cond := [Cond.classLink RX1 56 "java/lang/IndexOutOfBoundsException", Cond.initialized "java/lang/IndexOutOfBoundsException", Cond.classLink RX1 36 "java/lang/IllegalArgumentException", Cond.initialized "java/lang/IllegalArgumentException", Cond.methodLink RX1 69 yX1_roofAt, Cond.instanceMethod yX1_roofAt, Cond.selects RX1 yX1_roofAt yX1_roofAt, Cond.initialized RX1, Cond.code yX1_roofAt cX1_roofAt 2 (some (.object "ThatchRoof$Roof")), Cond.fieldLink RX1 11 "ThatchRoof" "roofs" "[LThatchRoof$Roof;", Cond.methodLink RX1 32 yX1_isWithin, Cond.static yX1_isWithin, Cond.code yX1_isWithin cX1_isWithin 3 (some .boolean), Cond.methodLink RX1 160 yX0_wouldTearInAll, Cond.instanceMethod yX0_wouldTearInAll, Cond.selects RX0 yX0_wouldTearInAll yX0_wouldTearInAll, Cond.initialized RX0, Cond.code yX0_wouldTearInAll cX0_wouldTearInAll 5 (some .int), Cond.fieldLink RX0 28 "ThatchRoof$Roof" "courses" "I", Cond.fieldLink RX0 24 "ThatchRoof$Roof" "width" "I", Cond.methodLink RX0 116 yX0_wouldTear, Cond.instanceMethod yX0_wouldTear, Cond.selects RX0 yX0_wouldTear yX0_wouldTear, Cond.code yX0_wouldTear cX0_wouldTear 7 (some .boolean)]
def wsX1_tears_r2 : List Cond := [Cond.fieldLink RX0 18 "ThatchRoof$Roof" "spars" "[I", Cond.fieldLink RX0 15 "ThatchRoof$Roof" "thicknesses" "[I", Cond.fieldLink RX0 34 "ThatchRoof$Roof" "ridge" "I", Cond.methodLink RX0 51 yX0_hasYealm, Cond.instanceMethod yX0_hasYealm, Cond.selects RX0 yX0_hasYealm yX0_hasYealm, Cond.code yX0_hasYealm cX0_hasYealm 3 (some .boolean), Cond.methodLink RX0 47 yX0_thicknessAt, Cond.instanceMethod yX0_thicknessAt, Cond.selects RX0 yX0_thicknessAt yX0_thicknessAt, Cond.code yX0_thicknessAt cX0_thicknessAt 3 (some .int), Cond.methodLink RX0 61 yX0_numberOf, Cond.instanceMethod yX0_numberOf, Cond.selects RX0 yX0_numberOf yX0_numberOf, Cond.code yX0_numberOf cX0_numberOf 3 (some .int), Cond.methodLink RX0 69 yX0_isBare, Cond.instanceMethod yX0_isBare, Cond.selects RX0 yX0_isBare yX0_isBare, Cond.code yX0_isBare cX0_isBare 3 (some .boolean), Cond.methodLink RX0 55 yX0_isHighest, Cond.instanceMethod yX0_isHighest, Cond.selects RX0 yX0_isHighest yX0_isHighest, Cond.code yX0_isHighest cX0_isHighest 2 (some .boolean), Cond.methodLink RX0 120 yX0_isEnd]
def wsX1_tears_r3 : List Cond := [Cond.instanceMethod yX0_isEnd, Cond.selects RX0 yX0_isEnd yX0_isEnd, Cond.code yX0_isEnd cX0_isEnd 2 (some .boolean)]
def wsX1_tears : List Cond := .code yX1_tears cX1_tears 4 (some .int) :: ((wsX1_tears_r1 ++ (wsX1_tears_r2 ++ wsX1_tears_r3)) ++ wsX10 ++ wsX00 ++ (vx_atS RX1 60 "java/lang/IndexOutOfBoundsException" ["java/lang/RuntimeException", "java/lang/Exception"]).filter goodWord ++ (vx_atS RX1 40 "java/lang/IllegalArgumentException" ["java/lang/RuntimeException", "java/lang/Exception"]).filter goodWord)
def wsX1_holds_r1 : List Cond := [Cond.classLink RX1 56 "java/lang/IndexOutOfBoundsException", Cond.initialized "java/lang/IndexOutOfBoundsException", Cond.fieldLink RX1 28 "ThatchRoof" "trial" "LThatchRoof$Roof;", Cond.methodLink RX1 69 yX1_roofAt, Cond.instanceMethod yX1_roofAt, Cond.selects RX1 yX1_roofAt yX1_roofAt, Cond.initialized RX1, Cond.code yX1_roofAt cX1_roofAt 2 (some (.object "ThatchRoof$Roof")), Cond.fieldLink RX1 11 "ThatchRoof" "roofs" "[LThatchRoof$Roof;", Cond.methodLink RX1 32 yX1_isWithin, Cond.static yX1_isWithin, Cond.code yX1_isWithin cX1_isWithin 3 (some .boolean), Cond.methodLink RX1 163 yX0_leaks, Cond.instanceMethod yX0_leaks, Cond.selects RX0 yX0_leaks yX0_leaks, Cond.initialized RX0, Cond.code yX0_leaks cX0_leaks 3 (some .int), Cond.fieldLink RX0 24 "ThatchRoof$Roof" "width" "I", Cond.fieldLink RX0 28 "ThatchRoof$Roof" "courses" "I", Cond.methodLink RX0 88 yX0_thicknessOver, Cond.instanceMethod yX0_thicknessOver, Cond.selects RX0 yX0_thicknessOver yX0_thicknessOver, Cond.code yX0_thicknessOver cX0_thicknessOver 4 (some .int), Cond.methodLink RX0 47 yX0_thicknessAt]
def wsX1_holds_r2 : List Cond := [Cond.instanceMethod yX0_thicknessAt, Cond.selects RX0 yX0_thicknessAt yX0_thicknessAt, Cond.code yX0_thicknessAt cX0_thicknessAt 3 (some .int), Cond.fieldLink RX0 15 "ThatchRoof$Roof" "thicknesses" "[I", Cond.methodLink RX0 51 yX0_hasYealm, Cond.instanceMethod yX0_hasYealm, Cond.selects RX0 yX0_hasYealm yX0_hasYealm, Cond.code yX0_hasYealm cX0_hasYealm 3 (some .boolean), Cond.methodLink RX1 166 yX0_becomeLike, Cond.instanceMethod yX0_becomeLike, Cond.selects RX0 yX0_becomeLike yX0_becomeLike, Cond.code yX0_becomeLike cX0_becomeLike 2 none, Cond.fieldLink RX0 31 "ThatchRoof$Roof" "slope" "I", Cond.fieldLink RX0 34 "ThatchRoof$Roof" "ridge" "I", Cond.fieldLink RX0 9 "ThatchRoof$Roof" "kinds" "[I", Cond.methodLink RX0 37 arraycopyName, Cond.native arraycopyName, Cond.static arraycopyName, Cond.initialized "java/lang/System", Cond.fieldLink RX0 18 "ThatchRoof$Roof" "spars" "[I", Cond.fieldLink RX0 21 "ThatchRoof$Roof" "mosses" "[I", Cond.methodLink RX1 146 yX1_rainAhead, Cond.instanceMethod yX1_rainAhead, Cond.selects RX1 yX1_rainAhead yX1_rainAhead]
def wsX1_holds_r3 : List Cond := [Cond.code yX1_rainAhead cX1_rainAhead 2 (some .int), Cond.fieldLink RX1 19 "ThatchRoof" "rains" "[I", Cond.methodLink RX1 210 yX1_monthOfYear, Cond.instanceMethod yX1_monthOfYear, Cond.selects RX1 yX1_monthOfYear yX1_monthOfYear, Cond.code yX1_monthOfYear cX1_monthOfYear 2 (some .int), Cond.fieldLink RX1 155 "ThatchRoof" "month" "I", Cond.methodLink RX1 205 yJ9_floorMod_7cf53, Cond.static yJ9_floorMod_7cf53, Cond.initialized RJ9, Cond.code yJ9_floorMod_7cf53 cJ9_floorMod_7cf53 3 (some .int), Cond.methodLink RX1 149 yX1_stormAhead, Cond.instanceMethod yX1_stormAhead, Cond.selects RX1 yX1_stormAhead yX1_stormAhead, Cond.code yX1_stormAhead cX1_stormAhead 2 (some .int), Cond.fieldLink RX1 22 "ThatchRoof" "storms" "[I", Cond.methodLink RX1 152 yX0_liveMonth, Cond.instanceMethod yX0_liveMonth, Cond.selects RX0 yX0_liveMonth yX0_liveMonth, Cond.code yX0_liveMonth cX0_liveMonth 5 (some .int), Cond.methodLink RX0 92 yX0_liveMonthAt, Cond.instanceMethod yX0_liveMonthAt, Cond.selects RX0 yX0_liveMonthAt yX0_liveMonthAt, Cond.code yX0_liveMonthAt cX0_liveMonthAt 6 (some .int)]
def wsX1_holds_r4 : List Cond := [Cond.fieldLink RX0 85 "ThatchRoof$Roof" "worn" "I", Cond.fieldLink RX0 82 "ThatchRoof$Roof" "torn" "I", Cond.methodLink RX0 100 yX0_rainOn, Cond.instanceMethod yX0_rainOn, Cond.selects RX0 yX0_rainOn yX0_rainOn, Cond.code yX0_rainOn cX0_rainOn 6 (some .int), Cond.methodLink RX0 110 Lib.Math.max.name, Cond.static Lib.Math.max.name, Cond.initialized "java/lang/Math", Cond.code Lib.Math.max.name Lib.Math.max.code 2 (some .int), Cond.methodLink RX0 61 yX0_numberOf, Cond.instanceMethod yX0_numberOf, Cond.selects RX0 yX0_numberOf yX0_numberOf, Cond.code yX0_numberOf cX0_numberOf 3 (some .int), Cond.methodLink RX0 113 yX0_wearBy, Cond.instanceMethod yX0_wearBy, Cond.selects RX0 yX0_wearBy yX0_wearBy, Cond.code yX0_wearBy cX0_wearBy 6 (some .int), Cond.methodLink RX0 69 yX0_isBare, Cond.instanceMethod yX0_isBare, Cond.selects RX0 yX0_isBare yX0_isBare, Cond.code yX0_isBare cX0_isBare 3 (some .boolean), Cond.methodLink RX0 55 yX0_isHighest, Cond.instanceMethod yX0_isHighest]
def wsX1_holds_r5 : List Cond := [Cond.selects RX0 yX0_isHighest yX0_isHighest, Cond.code yX0_isHighest cX0_isHighest 2 (some .boolean), Cond.methodLink RX0 103 yX0_growMoss, Cond.instanceMethod yX0_growMoss, Cond.selects RX0 yX0_growMoss yX0_growMoss, Cond.code yX0_growMoss cX0_growMoss 5 none, Cond.methodLink RX0 64 Lib.Math.min.name, Cond.static Lib.Math.min.name, Cond.code Lib.Math.min.name Lib.Math.min.code 2 (some .int), Cond.methodLink RX0 107 yX0_stormOn, Cond.instanceMethod yX0_stormOn, Cond.selects RX0 yX0_stormOn yX0_stormOn, Cond.code yX0_stormOn cX0_stormOn 5 (some .int), Cond.methodLink RX0 116 yX0_wouldTear, Cond.instanceMethod yX0_wouldTear, Cond.selects RX0 yX0_wouldTear yX0_wouldTear, Cond.code yX0_wouldTear cX0_wouldTear 7 (some .boolean), Cond.methodLink RX0 120 yX0_isEnd, Cond.instanceMethod yX0_isEnd, Cond.selects RX0 yX0_isEnd yX0_isEnd, Cond.code yX0_isEnd cX0_isEnd 2 (some .boolean), Cond.methodLink RX0 96 yX0_wearRidge, Cond.instanceMethod yX0_wearRidge, Cond.selects RX0 yX0_wearRidge yX0_wearRidge]
def wsX1_holds_r6 : List Cond := [Cond.code yX0_wearRidge cX0_wearRidge 2 none]
def wsX1_holds : List Cond := .code yX1_holds cX1_holds 5 (some .int) :: ((wsX1_holds_r1 ++ (wsX1_holds_r2 ++ (wsX1_holds_r3 ++ (wsX1_holds_r4 ++ (wsX1_holds_r5 ++ wsX1_holds_r6))))) ++ wsX10 ++ wsX00 ++ (vx_atS RX1 60 "java/lang/IndexOutOfBoundsException" ["java/lang/RuntimeException", "java/lang/Exception"]).filter goodWord)
def wsX1_foresee_r1 : List Cond := [Cond.classLink RX1 56 "java/lang/IndexOutOfBoundsException", Cond.initialized "java/lang/IndexOutOfBoundsException", Cond.classLink RX1 36 "java/lang/IllegalArgumentException", Cond.initialized "java/lang/IllegalArgumentException", Cond.fieldLink RX1 28 "ThatchRoof" "trial" "LThatchRoof$Roof;", Cond.methodLink RX1 69 yX1_roofAt, Cond.instanceMethod yX1_roofAt, Cond.selects RX1 yX1_roofAt yX1_roofAt, Cond.initialized RX1, Cond.code yX1_roofAt cX1_roofAt 2 (some (.object "ThatchRoof$Roof")), Cond.fieldLink RX1 11 "ThatchRoof" "roofs" "[LThatchRoof$Roof;", Cond.methodLink RX1 32 yX1_isWithin, Cond.static yX1_isWithin, Cond.code yX1_isWithin cX1_isWithin 3 (some .boolean), Cond.methodLink RX1 166 yX0_becomeLike, Cond.instanceMethod yX0_becomeLike, Cond.selects RX0 yX0_becomeLike yX0_becomeLike, Cond.initialized RX0, Cond.code yX0_becomeLike cX0_becomeLike 2 none, Cond.fieldLink RX0 24 "ThatchRoof$Roof" "width" "I", Cond.fieldLink RX0 28 "ThatchRoof$Roof" "courses" "I", Cond.fieldLink RX0 31 "ThatchRoof$Roof" "slope" "I", Cond.fieldLink RX0 34 "ThatchRoof$Roof" "ridge" "I", Cond.fieldLink RX0 9 "ThatchRoof$Roof" "kinds" "[I"]
def wsX1_foresee_r2 : List Cond := [Cond.methodLink RX0 37 arraycopyName, Cond.native arraycopyName, Cond.static arraycopyName, Cond.initialized "java/lang/System", Cond.fieldLink RX0 15 "ThatchRoof$Roof" "thicknesses" "[I", Cond.fieldLink RX0 18 "ThatchRoof$Roof" "spars" "[I", Cond.fieldLink RX0 21 "ThatchRoof$Roof" "mosses" "[I", Cond.methodLink RX1 146 yX1_rainAhead, Cond.instanceMethod yX1_rainAhead, Cond.selects RX1 yX1_rainAhead yX1_rainAhead, Cond.code yX1_rainAhead cX1_rainAhead 2 (some .int), Cond.fieldLink RX1 19 "ThatchRoof" "rains" "[I", Cond.methodLink RX1 210 yX1_monthOfYear, Cond.instanceMethod yX1_monthOfYear, Cond.selects RX1 yX1_monthOfYear yX1_monthOfYear, Cond.code yX1_monthOfYear cX1_monthOfYear 2 (some .int), Cond.fieldLink RX1 155 "ThatchRoof" "month" "I", Cond.methodLink RX1 205 yJ9_floorMod_7cf53, Cond.static yJ9_floorMod_7cf53, Cond.initialized RJ9, Cond.code yJ9_floorMod_7cf53 cJ9_floorMod_7cf53 3 (some .int), Cond.methodLink RX1 149 yX1_stormAhead, Cond.instanceMethod yX1_stormAhead, Cond.selects RX1 yX1_stormAhead yX1_stormAhead]
def wsX1_foresee_r3 : List Cond := [Cond.code yX1_stormAhead cX1_stormAhead 2 (some .int), Cond.fieldLink RX1 22 "ThatchRoof" "storms" "[I", Cond.methodLink RX1 152 yX0_liveMonth, Cond.instanceMethod yX0_liveMonth, Cond.selects RX0 yX0_liveMonth yX0_liveMonth, Cond.code yX0_liveMonth cX0_liveMonth 5 (some .int), Cond.methodLink RX0 92 yX0_liveMonthAt, Cond.instanceMethod yX0_liveMonthAt, Cond.selects RX0 yX0_liveMonthAt yX0_liveMonthAt, Cond.code yX0_liveMonthAt cX0_liveMonthAt 6 (some .int), Cond.fieldLink RX0 85 "ThatchRoof$Roof" "worn" "I", Cond.fieldLink RX0 82 "ThatchRoof$Roof" "torn" "I", Cond.methodLink RX0 100 yX0_rainOn, Cond.instanceMethod yX0_rainOn, Cond.selects RX0 yX0_rainOn yX0_rainOn, Cond.code yX0_rainOn cX0_rainOn 6 (some .int), Cond.methodLink RX0 110 Lib.Math.max.name, Cond.static Lib.Math.max.name, Cond.initialized "java/lang/Math", Cond.code Lib.Math.max.name Lib.Math.max.code 2 (some .int), Cond.methodLink RX0 51 yX0_hasYealm, Cond.instanceMethod yX0_hasYealm, Cond.selects RX0 yX0_hasYealm yX0_hasYealm, Cond.code yX0_hasYealm cX0_hasYealm 3 (some .boolean)]
def wsX1_foresee_r4 : List Cond := [Cond.methodLink RX0 47 yX0_thicknessAt, Cond.instanceMethod yX0_thicknessAt, Cond.selects RX0 yX0_thicknessAt yX0_thicknessAt, Cond.code yX0_thicknessAt cX0_thicknessAt 3 (some .int), Cond.methodLink RX0 61 yX0_numberOf, Cond.instanceMethod yX0_numberOf, Cond.selects RX0 yX0_numberOf yX0_numberOf, Cond.code yX0_numberOf cX0_numberOf 3 (some .int), Cond.methodLink RX0 113 yX0_wearBy, Cond.instanceMethod yX0_wearBy, Cond.selects RX0 yX0_wearBy yX0_wearBy, Cond.code yX0_wearBy cX0_wearBy 6 (some .int), Cond.methodLink RX0 69 yX0_isBare, Cond.instanceMethod yX0_isBare, Cond.selects RX0 yX0_isBare yX0_isBare, Cond.code yX0_isBare cX0_isBare 3 (some .boolean), Cond.methodLink RX0 55 yX0_isHighest, Cond.instanceMethod yX0_isHighest, Cond.selects RX0 yX0_isHighest yX0_isHighest, Cond.code yX0_isHighest cX0_isHighest 2 (some .boolean), Cond.methodLink RX0 103 yX0_growMoss, Cond.instanceMethod yX0_growMoss, Cond.selects RX0 yX0_growMoss yX0_growMoss, Cond.code yX0_growMoss cX0_growMoss 5 none]
def wsX1_foresee_r5 : List Cond := [Cond.methodLink RX0 64 Lib.Math.min.name, Cond.static Lib.Math.min.name, Cond.code Lib.Math.min.name Lib.Math.min.code 2 (some .int), Cond.methodLink RX0 107 yX0_stormOn, Cond.instanceMethod yX0_stormOn, Cond.selects RX0 yX0_stormOn yX0_stormOn, Cond.code yX0_stormOn cX0_stormOn 5 (some .int), Cond.methodLink RX0 116 yX0_wouldTear, Cond.instanceMethod yX0_wouldTear, Cond.selects RX0 yX0_wouldTear yX0_wouldTear, Cond.code yX0_wouldTear cX0_wouldTear 7 (some .boolean), Cond.methodLink RX0 120 yX0_isEnd, Cond.instanceMethod yX0_isEnd, Cond.selects RX0 yX0_isEnd yX0_isEnd, Cond.code yX0_isEnd cX0_isEnd 2 (some .boolean), Cond.methodLink RX0 96 yX0_wearRidge, Cond.instanceMethod yX0_wearRidge, Cond.selects RX0 yX0_wearRidge yX0_wearRidge, Cond.code yX0_wearRidge cX0_wearRidge 2 none, Cond.methodLink RX1 174 yX0_yealms, Cond.instanceMethod yX0_yealms, Cond.selects RX0 yX0_yealms yX0_yealms, Cond.code yX0_yealms cX0_yealms 4 (some .int), Cond.methodLink RX1 163 yX0_leaks]
def wsX1_foresee_r6 : List Cond := [Cond.instanceMethod yX0_leaks, Cond.selects RX0 yX0_leaks yX0_leaks, Cond.code yX0_leaks cX0_leaks 3 (some .int), Cond.methodLink RX0 88 yX0_thicknessOver, Cond.instanceMethod yX0_thicknessOver, Cond.selects RX0 yX0_thicknessOver yX0_thicknessOver, Cond.code yX0_thicknessOver cX0_thicknessOver 4 (some .int), Cond.methodLink RX1 177 yX0_ridgeLeft, Cond.instanceMethod yX0_ridgeLeft, Cond.selects RX0 yX0_ridgeLeft yX0_ridgeLeft, Cond.code yX0_ridgeLeft cX0_ridgeLeft 1 (some .int)]
def wsX1_foresee : List Cond := .code yX1_foresee cX1_foresee 6 (some .int) :: ((wsX1_foresee_r1 ++ (wsX1_foresee_r2 ++ (wsX1_foresee_r3 ++ (wsX1_foresee_r4 ++ (wsX1_foresee_r5 ++ wsX1_foresee_r6))))) ++ wsX10 ++ wsX00 ++ (vx_atS RX1 60 "java/lang/IndexOutOfBoundsException" ["java/lang/RuntimeException", "java/lang/Exception"]).filter goodWord ++ (vx_atS RX1 40 "java/lang/IllegalArgumentException" ["java/lang/RuntimeException", "java/lang/Exception"]).filter goodWord)
def wsX1_lostAt_r1 : List Cond := [Cond.fieldLink RX1 28 "ThatchRoof" "trial" "LThatchRoof$Roof;", Cond.methodLink RX1 166 yX0_becomeLike, Cond.instanceMethod yX0_becomeLike, Cond.selects RX0 yX0_becomeLike yX0_becomeLike, Cond.initialized RX0, Cond.code yX0_becomeLike cX0_becomeLike 2 none, Cond.fieldLink RX0 24 "ThatchRoof$Roof" "width" "I", Cond.fieldLink RX0 28 "ThatchRoof$Roof" "courses" "I", Cond.fieldLink RX0 31 "ThatchRoof$Roof" "slope" "I", Cond.fieldLink RX0 34 "ThatchRoof$Roof" "ridge" "I", Cond.fieldLink RX0 9 "ThatchRoof$Roof" "kinds" "[I", Cond.methodLink RX0 37 arraycopyName, Cond.native arraycopyName, Cond.static arraycopyName, Cond.initialized "java/lang/System", Cond.fieldLink RX0 15 "ThatchRoof$Roof" "thicknesses" "[I", Cond.fieldLink RX0 18 "ThatchRoof$Roof" "spars" "[I", Cond.fieldLink RX0 21 "ThatchRoof$Roof" "mosses" "[I", Cond.methodLink RX1 114 yX0_improve, Cond.instanceMethod yX0_improve, Cond.selects RX0 yX0_improve yX0_improve, Cond.code yX0_improve cX0_improve 4 none, Cond.methodLink RX0 64 Lib.Math.min.name, Cond.static Lib.Math.min.name]
def wsX1_lostAt_r2 : List Cond := [Cond.initialized "java/lang/Math", Cond.code Lib.Math.min.name Lib.Math.min.code 2 (some .int), Cond.methodLink RX0 51 yX0_hasYealm, Cond.instanceMethod yX0_hasYealm, Cond.selects RX0 yX0_hasYealm yX0_hasYealm, Cond.code yX0_hasYealm cX0_hasYealm 3 (some .boolean), Cond.methodLink RX0 47 yX0_thicknessAt, Cond.instanceMethod yX0_thicknessAt, Cond.selects RX0 yX0_thicknessAt yX0_thicknessAt, Cond.code yX0_thicknessAt cX0_thicknessAt 3 (some .int), Cond.methodLink RX0 61 yX0_numberOf, Cond.instanceMethod yX0_numberOf, Cond.selects RX0 yX0_numberOf yX0_numberOf, Cond.code yX0_numberOf cX0_numberOf 3 (some .int), Cond.methodLink RX1 146 yX1_rainAhead, Cond.instanceMethod yX1_rainAhead, Cond.selects RX1 yX1_rainAhead yX1_rainAhead, Cond.initialized RX1, Cond.code yX1_rainAhead cX1_rainAhead 2 (some .int), Cond.fieldLink RX1 19 "ThatchRoof" "rains" "[I", Cond.methodLink RX1 210 yX1_monthOfYear, Cond.instanceMethod yX1_monthOfYear, Cond.selects RX1 yX1_monthOfYear yX1_monthOfYear, Cond.code yX1_monthOfYear cX1_monthOfYear 2 (some .int)]
def wsX1_lostAt_r3 : List Cond := [Cond.fieldLink RX1 155 "ThatchRoof" "month" "I", Cond.methodLink RX1 205 yJ9_floorMod_7cf53, Cond.static yJ9_floorMod_7cf53, Cond.initialized RJ9, Cond.code yJ9_floorMod_7cf53 cJ9_floorMod_7cf53 3 (some .int), Cond.methodLink RX1 149 yX1_stormAhead, Cond.instanceMethod yX1_stormAhead, Cond.selects RX1 yX1_stormAhead yX1_stormAhead, Cond.code yX1_stormAhead cX1_stormAhead 2 (some .int), Cond.fieldLink RX1 22 "ThatchRoof" "storms" "[I", Cond.methodLink RX1 216 yX0_liveMonthAt, Cond.instanceMethod yX0_liveMonthAt, Cond.selects RX0 yX0_liveMonthAt yX0_liveMonthAt, Cond.code yX0_liveMonthAt cX0_liveMonthAt 6 (some .int), Cond.fieldLink RX0 85 "ThatchRoof$Roof" "worn" "I", Cond.fieldLink RX0 82 "ThatchRoof$Roof" "torn" "I", Cond.methodLink RX0 100 yX0_rainOn, Cond.instanceMethod yX0_rainOn, Cond.selects RX0 yX0_rainOn yX0_rainOn, Cond.code yX0_rainOn cX0_rainOn 6 (some .int), Cond.methodLink RX0 110 Lib.Math.max.name, Cond.static Lib.Math.max.name, Cond.code Lib.Math.max.name Lib.Math.max.code 2 (some .int), Cond.methodLink RX0 113 yX0_wearBy]
def wsX1_lostAt_r4 : List Cond := [Cond.instanceMethod yX0_wearBy, Cond.selects RX0 yX0_wearBy yX0_wearBy, Cond.code yX0_wearBy cX0_wearBy 6 (some .int), Cond.methodLink RX0 69 yX0_isBare, Cond.instanceMethod yX0_isBare, Cond.selects RX0 yX0_isBare yX0_isBare, Cond.code yX0_isBare cX0_isBare 3 (some .boolean), Cond.methodLink RX0 55 yX0_isHighest, Cond.instanceMethod yX0_isHighest, Cond.selects RX0 yX0_isHighest yX0_isHighest, Cond.code yX0_isHighest cX0_isHighest 2 (some .boolean), Cond.methodLink RX0 103 yX0_growMoss, Cond.instanceMethod yX0_growMoss, Cond.selects RX0 yX0_growMoss yX0_growMoss, Cond.code yX0_growMoss cX0_growMoss 5 none, Cond.methodLink RX0 107 yX0_stormOn, Cond.instanceMethod yX0_stormOn, Cond.selects RX0 yX0_stormOn yX0_stormOn, Cond.code yX0_stormOn cX0_stormOn 5 (some .int), Cond.methodLink RX0 116 yX0_wouldTear, Cond.instanceMethod yX0_wouldTear, Cond.selects RX0 yX0_wouldTear yX0_wouldTear, Cond.code yX0_wouldTear cX0_wouldTear 7 (some .boolean), Cond.methodLink RX0 120 yX0_isEnd]
def wsX1_lostAt_r5 : List Cond := [Cond.instanceMethod yX0_isEnd, Cond.selects RX0 yX0_isEnd yX0_isEnd, Cond.code yX0_isEnd cX0_isEnd 2 (some .boolean), Cond.methodLink RX1 219 yX0_wearRidge, Cond.instanceMethod yX0_wearRidge, Cond.selects RX0 yX0_wearRidge yX0_wearRidge, Cond.code yX0_wearRidge cX0_wearRidge 2 none]
def wsX1_lostAt : List Cond := .code yX1_lostAt cX1_lostAt 7 (some .int) :: ((wsX1_lostAt_r1 ++ (wsX1_lostAt_r2 ++ (wsX1_lostAt_r3 ++ (wsX1_lostAt_r4 ++ wsX1_lostAt_r5)))) ++ wsX10 ++ wsX00)
def wsX1_advise_r1 : List Cond := [Cond.classLink RX1 56 "java/lang/IndexOutOfBoundsException", Cond.initialized "java/lang/IndexOutOfBoundsException", Cond.classLink RX1 36 "java/lang/IllegalArgumentException", Cond.initialized "java/lang/IllegalArgumentException", Cond.methodLink RX1 69 yX1_roofAt, Cond.instanceMethod yX1_roofAt, Cond.selects RX1 yX1_roofAt yX1_roofAt, Cond.initialized RX1, Cond.code yX1_roofAt cX1_roofAt 2 (some (.object "ThatchRoof$Roof")), Cond.fieldLink RX1 11 "ThatchRoof" "roofs" "[LThatchRoof$Roof;", Cond.methodLink RX1 32 yX1_isWithin, Cond.static yX1_isWithin, Cond.code yX1_isWithin cX1_isWithin 3 (some .boolean), Cond.methodLink RX1 102 yX0_wide, Cond.instanceMethod yX0_wide, Cond.selects RX0 yX0_wide yX0_wide, Cond.initialized RX0, Cond.code yX0_wide cX0_wide 1 (some .int), Cond.fieldLink RX0 24 "ThatchRoof$Roof" "width" "I", Cond.methodLink RX1 182 yX1_lostAt, Cond.instanceMethod yX1_lostAt, Cond.selects RX1 yX1_lostAt yX1_lostAt, Cond.code yX1_lostAt cX1_lostAt 7 (some .int), Cond.fieldLink RX1 28 "ThatchRoof" "trial" "LThatchRoof$Roof;"]
def wsX1_advise_r2 : List Cond := [Cond.methodLink RX1 166 yX0_becomeLike, Cond.instanceMethod yX0_becomeLike, Cond.selects RX0 yX0_becomeLike yX0_becomeLike, Cond.code yX0_becomeLike cX0_becomeLike 2 none, Cond.fieldLink RX0 28 "ThatchRoof$Roof" "courses" "I", Cond.fieldLink RX0 31 "ThatchRoof$Roof" "slope" "I", Cond.fieldLink RX0 34 "ThatchRoof$Roof" "ridge" "I", Cond.fieldLink RX0 9 "ThatchRoof$Roof" "kinds" "[I", Cond.methodLink RX0 37 arraycopyName, Cond.native arraycopyName, Cond.static arraycopyName, Cond.initialized "java/lang/System", Cond.fieldLink RX0 15 "ThatchRoof$Roof" "thicknesses" "[I", Cond.fieldLink RX0 18 "ThatchRoof$Roof" "spars" "[I", Cond.fieldLink RX0 21 "ThatchRoof$Roof" "mosses" "[I", Cond.methodLink RX1 114 yX0_improve, Cond.instanceMethod yX0_improve, Cond.selects RX0 yX0_improve yX0_improve, Cond.code yX0_improve cX0_improve 4 none, Cond.methodLink RX0 64 Lib.Math.min.name, Cond.static Lib.Math.min.name, Cond.initialized "java/lang/Math", Cond.code Lib.Math.min.name Lib.Math.min.code 2 (some .int), Cond.methodLink RX0 51 yX0_hasYealm]
def wsX1_advise_r3 : List Cond := [Cond.instanceMethod yX0_hasYealm, Cond.selects RX0 yX0_hasYealm yX0_hasYealm, Cond.code yX0_hasYealm cX0_hasYealm 3 (some .boolean), Cond.methodLink RX0 47 yX0_thicknessAt, Cond.instanceMethod yX0_thicknessAt, Cond.selects RX0 yX0_thicknessAt yX0_thicknessAt, Cond.code yX0_thicknessAt cX0_thicknessAt 3 (some .int), Cond.methodLink RX0 61 yX0_numberOf, Cond.instanceMethod yX0_numberOf, Cond.selects RX0 yX0_numberOf yX0_numberOf, Cond.code yX0_numberOf cX0_numberOf 3 (some .int), Cond.methodLink RX1 146 yX1_rainAhead, Cond.instanceMethod yX1_rainAhead, Cond.selects RX1 yX1_rainAhead yX1_rainAhead, Cond.code yX1_rainAhead cX1_rainAhead 2 (some .int), Cond.fieldLink RX1 19 "ThatchRoof" "rains" "[I", Cond.methodLink RX1 210 yX1_monthOfYear, Cond.instanceMethod yX1_monthOfYear, Cond.selects RX1 yX1_monthOfYear yX1_monthOfYear, Cond.code yX1_monthOfYear cX1_monthOfYear 2 (some .int), Cond.fieldLink RX1 155 "ThatchRoof" "month" "I", Cond.methodLink RX1 205 yJ9_floorMod_7cf53, Cond.static yJ9_floorMod_7cf53, Cond.initialized RJ9]
def wsX1_advise_r4 : List Cond := [Cond.code yJ9_floorMod_7cf53 cJ9_floorMod_7cf53 3 (some .int), Cond.methodLink RX1 149 yX1_stormAhead, Cond.instanceMethod yX1_stormAhead, Cond.selects RX1 yX1_stormAhead yX1_stormAhead, Cond.code yX1_stormAhead cX1_stormAhead 2 (some .int), Cond.fieldLink RX1 22 "ThatchRoof" "storms" "[I", Cond.methodLink RX1 216 yX0_liveMonthAt, Cond.instanceMethod yX0_liveMonthAt, Cond.selects RX0 yX0_liveMonthAt yX0_liveMonthAt, Cond.code yX0_liveMonthAt cX0_liveMonthAt 6 (some .int), Cond.fieldLink RX0 85 "ThatchRoof$Roof" "worn" "I", Cond.fieldLink RX0 82 "ThatchRoof$Roof" "torn" "I", Cond.methodLink RX0 100 yX0_rainOn, Cond.instanceMethod yX0_rainOn, Cond.selects RX0 yX0_rainOn yX0_rainOn, Cond.code yX0_rainOn cX0_rainOn 6 (some .int), Cond.methodLink RX0 110 Lib.Math.max.name, Cond.static Lib.Math.max.name, Cond.code Lib.Math.max.name Lib.Math.max.code 2 (some .int), Cond.methodLink RX0 113 yX0_wearBy, Cond.instanceMethod yX0_wearBy, Cond.selects RX0 yX0_wearBy yX0_wearBy, Cond.code yX0_wearBy cX0_wearBy 6 (some .int), Cond.methodLink RX0 69 yX0_isBare]
def wsX1_advise_r5 : List Cond := [Cond.instanceMethod yX0_isBare, Cond.selects RX0 yX0_isBare yX0_isBare, Cond.code yX0_isBare cX0_isBare 3 (some .boolean), Cond.methodLink RX0 55 yX0_isHighest, Cond.instanceMethod yX0_isHighest, Cond.selects RX0 yX0_isHighest yX0_isHighest, Cond.code yX0_isHighest cX0_isHighest 2 (some .boolean), Cond.methodLink RX0 103 yX0_growMoss, Cond.instanceMethod yX0_growMoss, Cond.selects RX0 yX0_growMoss yX0_growMoss, Cond.code yX0_growMoss cX0_growMoss 5 none, Cond.methodLink RX0 107 yX0_stormOn, Cond.instanceMethod yX0_stormOn, Cond.selects RX0 yX0_stormOn yX0_stormOn, Cond.code yX0_stormOn cX0_stormOn 5 (some .int), Cond.methodLink RX0 116 yX0_wouldTear, Cond.instanceMethod yX0_wouldTear, Cond.selects RX0 yX0_wouldTear yX0_wouldTear, Cond.code yX0_wouldTear cX0_wouldTear 7 (some .boolean), Cond.methodLink RX0 120 yX0_isEnd, Cond.instanceMethod yX0_isEnd, Cond.selects RX0 yX0_isEnd yX0_isEnd, Cond.code yX0_isEnd cX0_isEnd 2 (some .boolean), Cond.methodLink RX1 219 yX0_wearRidge]
def wsX1_advise_r6 : List Cond := [Cond.instanceMethod yX0_wearRidge, Cond.selects RX0 yX0_wearRidge yX0_wearRidge, Cond.code yX0_wearRidge cX0_wearRidge 2 none, Cond.methodLink RX1 186 yX0_high, Cond.instanceMethod yX0_high, Cond.selects RX0 yX0_high yX0_high, Cond.code yX0_high cX0_high 1 (some .int), Cond.methodLink RX1 189 yX0_numberOf]
def wsX1_advise : List Cond := .code yX1_advise cX1_advise 11 (some .int) :: ((wsX1_advise_r1 ++ (wsX1_advise_r2 ++ (wsX1_advise_r3 ++ (wsX1_advise_r4 ++ (wsX1_advise_r5 ++ wsX1_advise_r6))))) ++ wsX10 ++ wsX00 ++ (vx_atS RX1 60 "java/lang/IndexOutOfBoundsException" ["java/lang/RuntimeException", "java/lang/Exception"]).filter goodWord ++ (vx_atS RX1 40 "java/lang/IllegalArgumentException" ["java/lang/RuntimeException", "java/lang/Exception"]).filter goodWord)
def wsX1_needs_r1 : List Cond := [Cond.classLink RX1 56 "java/lang/IndexOutOfBoundsException", Cond.initialized "java/lang/IndexOutOfBoundsException", Cond.classLink RX1 36 "java/lang/IllegalArgumentException", Cond.initialized "java/lang/IllegalArgumentException", Cond.methodLink RX1 69 yX1_roofAt, Cond.instanceMethod yX1_roofAt, Cond.selects RX1 yX1_roofAt yX1_roofAt, Cond.initialized RX1, Cond.code yX1_roofAt cX1_roofAt 2 (some (.object "ThatchRoof$Roof")), Cond.fieldLink RX1 11 "ThatchRoof" "roofs" "[LThatchRoof$Roof;", Cond.methodLink RX1 32 yX1_isWithin, Cond.static yX1_isWithin, Cond.code yX1_isWithin cX1_isWithin 3 (some .boolean), Cond.methodLink RX1 102 yX0_wide, Cond.instanceMethod yX0_wide, Cond.selects RX0 yX0_wide yX0_wide, Cond.initialized RX0, Cond.code yX0_wide cX0_wide 1 (some .int), Cond.fieldLink RX0 24 "ThatchRoof$Roof" "width" "I", Cond.methodLink RX1 186 yX0_high, Cond.instanceMethod yX0_high, Cond.selects RX0 yX0_high yX0_high, Cond.code yX0_high cX0_high 1 (some .int), Cond.fieldLink RX0 28 "ThatchRoof$Roof" "courses" "I"]
def wsX1_needs_r2 : List Cond := [Cond.methodLink RX1 174 yX0_yealms, Cond.instanceMethod yX0_yealms, Cond.selects RX0 yX0_yealms yX0_yealms, Cond.code yX0_yealms cX0_yealms 4 (some .int), Cond.methodLink RX0 51 yX0_hasYealm, Cond.instanceMethod yX0_hasYealm, Cond.selects RX0 yX0_hasYealm yX0_hasYealm, Cond.code yX0_hasYealm cX0_hasYealm 3 (some .boolean), Cond.methodLink RX0 47 yX0_thicknessAt, Cond.instanceMethod yX0_thicknessAt, Cond.selects RX0 yX0_thicknessAt yX0_thicknessAt, Cond.code yX0_thicknessAt cX0_thicknessAt 3 (some .int), Cond.fieldLink RX0 15 "ThatchRoof$Roof" "thicknesses" "[I", Cond.methodLink RX1 87 yX1_bundlesFor, Cond.static yX1_bundlesFor, Cond.code yX1_bundlesFor cX1_bundlesFor 1 (some .int)]
def wsX1_needs : List Cond := .code yX1_needs cX1_needs 5 (some .int) :: ((wsX1_needs_r1 ++ wsX1_needs_r2) ++ wsX10 ++ wsX00 ++ (vx_atS RX1 60 "java/lang/IndexOutOfBoundsException" ["java/lang/RuntimeException", "java/lang/Exception"]).filter goodWord ++ (vx_atS RX1 40 "java/lang/IllegalArgumentException" ["java/lang/RuntimeException", "java/lang/Exception"]).filter goodWord)
def wsX1_mean_r1 : List Cond := [Cond.fieldLink RX1 11 "ThatchRoof" "roofs" "[LThatchRoof$Roof;", Cond.methodLink RX1 174 yX0_yealms, Cond.instanceMethod yX0_yealms, Cond.selects RX0 yX0_yealms yX0_yealms, Cond.initialized RX0, Cond.code yX0_yealms cX0_yealms 4 (some .int), Cond.fieldLink RX0 28 "ThatchRoof$Roof" "courses" "I", Cond.fieldLink RX0 24 "ThatchRoof$Roof" "width" "I", Cond.methodLink RX0 51 yX0_hasYealm, Cond.instanceMethod yX0_hasYealm, Cond.selects RX0 yX0_hasYealm yX0_hasYealm, Cond.code yX0_hasYealm cX0_hasYealm 3 (some .boolean), Cond.methodLink RX0 47 yX0_thicknessAt, Cond.instanceMethod yX0_thicknessAt, Cond.selects RX0 yX0_thicknessAt yX0_thicknessAt, Cond.code yX0_thicknessAt cX0_thicknessAt 3 (some .int), Cond.fieldLink RX0 15 "ThatchRoof$Roof" "thicknesses" "[I", Cond.methodLink RX1 194 yX0_thicknessInAll, Cond.instanceMethod yX0_thicknessInAll, Cond.selects RX0 yX0_thicknessInAll yX0_thicknessInAll, Cond.code yX0_thicknessInAll cX0_thicknessInAll 3 (some .int), Cond.methodLink RX0 88 yX0_thicknessOver, Cond.instanceMethod yX0_thicknessOver, Cond.selects RX0 yX0_thicknessOver yX0_thicknessOver]
def wsX1_mean_r2 : List Cond := [Cond.code yX0_thicknessOver cX0_thicknessOver 4 (some .int)]
def wsX1_mean : List Cond := .code yX1_mean cX1_mean 5 (some .double) :: ((wsX1_mean_r1 ++ wsX1_mean_r2) ++ wsX10 ++ wsX00)
def wsX1_digestRoof_r1 : List Cond := [Cond.constantLong RX1 199 (31), Cond.methodLink RX1 136 yX0_tell, Cond.instanceMethod yX0_tell, Cond.selects RX0 yX0_tell yX0_tell, Cond.initialized RX0, Cond.code yX0_tell cX0_tell 2 (some .int), Cond.fieldLink RX0 24 "ThatchRoof$Roof" "width" "I", Cond.fieldLink RX0 28 "ThatchRoof$Roof" "courses" "I", Cond.fieldLink RX0 31 "ThatchRoof$Roof" "slope" "I", Cond.fieldLink RX0 34 "ThatchRoof$Roof" "ridge" "I", Cond.fieldLink RX0 82 "ThatchRoof$Roof" "torn" "I", Cond.fieldLink RX0 85 "ThatchRoof$Roof" "worn" "I", Cond.methodLink RX0 72 yX0_yealms, Cond.instanceMethod yX0_yealms, Cond.selects RX0 yX0_yealms yX0_yealms, Cond.code yX0_yealms cX0_yealms 4 (some .int), Cond.methodLink RX0 51 yX0_hasYealm, Cond.instanceMethod yX0_hasYealm, Cond.selects RX0 yX0_hasYealm yX0_hasYealm, Cond.code yX0_hasYealm cX0_hasYealm 3 (some .boolean), Cond.methodLink RX0 47 yX0_thicknessAt, Cond.instanceMethod yX0_thicknessAt, Cond.selects RX0 yX0_thicknessAt yX0_thicknessAt, Cond.code yX0_thicknessAt cX0_thicknessAt 3 (some .int)]
def wsX1_digestRoof_r2 : List Cond := [Cond.fieldLink RX0 15 "ThatchRoof$Roof" "thicknesses" "[I", Cond.methodLink RX0 76 yX0_thicknessInAll, Cond.instanceMethod yX0_thicknessInAll, Cond.selects RX0 yX0_thicknessInAll yX0_thicknessInAll, Cond.code yX0_thicknessInAll cX0_thicknessInAll 3 (some .int), Cond.methodLink RX0 88 yX0_thicknessOver, Cond.instanceMethod yX0_thicknessOver, Cond.selects RX0 yX0_thicknessOver yX0_thicknessOver, Cond.code yX0_thicknessOver cX0_thicknessOver 4 (some .int), Cond.methodLink RX0 79 yX0_leaks, Cond.instanceMethod yX0_leaks, Cond.selects RX0 yX0_leaks yX0_leaks, Cond.code yX0_leaks cX0_leaks 3 (some .int), Cond.methodLink RX1 186 yX0_high, Cond.instanceMethod yX0_high, Cond.selects RX0 yX0_high yX0_high, Cond.code yX0_high cX0_high 1 (some .int), Cond.methodLink RX1 102 yX0_wide, Cond.instanceMethod yX0_wide, Cond.selects RX0 yX0_wide yX0_wide, Cond.code yX0_wide cX0_wide 1 (some .int), Cond.methodLink RX1 130 yX0_tellYealm, Cond.instanceMethod yX0_tellYealm, Cond.selects RX0 yX0_tellYealm yX0_tellYealm]
def wsX1_digestRoof_r3 : List Cond := [Cond.code yX0_tellYealm cX0_tellYealm 5 (some .int), Cond.fieldLink RX0 9 "ThatchRoof$Roof" "kinds" "[I", Cond.fieldLink RX0 18 "ThatchRoof$Roof" "spars" "[I", Cond.fieldLink RX0 21 "ThatchRoof$Roof" "mosses" "[I", Cond.methodLink RX0 61 yX0_numberOf, Cond.instanceMethod yX0_numberOf, Cond.selects RX0 yX0_numberOf yX0_numberOf, Cond.code yX0_numberOf cX0_numberOf 3 (some .int), Cond.methodLink RX0 69 yX0_isBare, Cond.instanceMethod yX0_isBare, Cond.selects RX0 yX0_isBare yX0_isBare, Cond.code yX0_isBare cX0_isBare 3 (some .boolean), Cond.methodLink RX0 55 yX0_isHighest, Cond.instanceMethod yX0_isHighest, Cond.selects RX0 yX0_isHighest yX0_isHighest, Cond.code yX0_isHighest cX0_isHighest 2 (some .boolean)]
def wsX1_digestRoof : List Cond := .code yX1_digestRoof cX1_digestRoof 8 (some .long) :: ((wsX1_digestRoof_r1 ++ (wsX1_digestRoof_r2 ++ wsX1_digestRoof_r3)) ++ wsX00)
def wsX1_digest_r1 : List Cond := [Cond.constantLong RX1 197 (739), Cond.constantLong RX1 199 (31), Cond.fieldLink RX1 19 "ThatchRoof" "rains" "[I", Cond.fieldLink RX1 22 "ThatchRoof" "storms" "[I", Cond.fieldLink RX1 11 "ThatchRoof" "roofs" "[LThatchRoof$Roof;", Cond.methodLink RX1 141 yX1_tally, Cond.instanceMethod yX1_tally, Cond.selects RX1 yX1_tally yX1_tally, Cond.initialized RX1, Cond.code yX1_tally cX1_tally 2 (some .int), Cond.fieldLink RX1 155 "ThatchRoof" "month" "I", Cond.fieldLink RX1 43 "ThatchRoof" "built" "I", Cond.fieldLink RX1 15 "ThatchRoof" "barn" "[I", Cond.methodLink RX1 213 yX1_tallyOfRoofs, Cond.instanceMethod yX1_tallyOfRoofs, Cond.selects RX1 yX1_tallyOfRoofs yX1_tallyOfRoofs, Cond.code yX1_tallyOfRoofs cX1_tallyOfRoofs 5 (some .int), Cond.methodLink RX1 136 yX0_tell, Cond.instanceMethod yX0_tell, Cond.selects RX0 yX0_tell yX0_tell, Cond.initialized RX0, Cond.code yX0_tell cX0_tell 2 (some .int), Cond.fieldLink RX0 24 "ThatchRoof$Roof" "width" "I", Cond.fieldLink RX0 28 "ThatchRoof$Roof" "courses" "I"]
def wsX1_digest_r2 : List Cond := [Cond.fieldLink RX0 31 "ThatchRoof$Roof" "slope" "I", Cond.fieldLink RX0 34 "ThatchRoof$Roof" "ridge" "I", Cond.fieldLink RX0 82 "ThatchRoof$Roof" "torn" "I", Cond.fieldLink RX0 85 "ThatchRoof$Roof" "worn" "I", Cond.methodLink RX0 72 yX0_yealms, Cond.instanceMethod yX0_yealms, Cond.selects RX0 yX0_yealms yX0_yealms, Cond.code yX0_yealms cX0_yealms 4 (some .int), Cond.methodLink RX0 51 yX0_hasYealm, Cond.instanceMethod yX0_hasYealm, Cond.selects RX0 yX0_hasYealm yX0_hasYealm, Cond.code yX0_hasYealm cX0_hasYealm 3 (some .boolean), Cond.methodLink RX0 47 yX0_thicknessAt, Cond.instanceMethod yX0_thicknessAt, Cond.selects RX0 yX0_thicknessAt yX0_thicknessAt, Cond.code yX0_thicknessAt cX0_thicknessAt 3 (some .int), Cond.fieldLink RX0 15 "ThatchRoof$Roof" "thicknesses" "[I", Cond.methodLink RX0 76 yX0_thicknessInAll, Cond.instanceMethod yX0_thicknessInAll, Cond.selects RX0 yX0_thicknessInAll yX0_thicknessInAll, Cond.code yX0_thicknessInAll cX0_thicknessInAll 3 (some .int), Cond.methodLink RX0 88 yX0_thicknessOver, Cond.instanceMethod yX0_thicknessOver, Cond.selects RX0 yX0_thicknessOver yX0_thicknessOver]
def wsX1_digest_r3 : List Cond := [Cond.code yX0_thicknessOver cX0_thicknessOver 4 (some .int), Cond.methodLink RX0 79 yX0_leaks, Cond.instanceMethod yX0_leaks, Cond.selects RX0 yX0_leaks yX0_leaks, Cond.code yX0_leaks cX0_leaks 3 (some .int), Cond.methodLink RX1 146 yX1_rainAhead, Cond.instanceMethod yX1_rainAhead, Cond.selects RX1 yX1_rainAhead yX1_rainAhead, Cond.code yX1_rainAhead cX1_rainAhead 2 (some .int), Cond.methodLink RX1 210 yX1_monthOfYear, Cond.instanceMethod yX1_monthOfYear, Cond.selects RX1 yX1_monthOfYear yX1_monthOfYear, Cond.code yX1_monthOfYear cX1_monthOfYear 2 (some .int), Cond.methodLink RX1 205 yJ9_floorMod_7cf53, Cond.static yJ9_floorMod_7cf53, Cond.initialized RJ9, Cond.code yJ9_floorMod_7cf53 cJ9_floorMod_7cf53 3 (some .int), Cond.methodLink RX1 149 yX1_stormAhead, Cond.instanceMethod yX1_stormAhead, Cond.selects RX1 yX1_stormAhead yX1_stormAhead, Cond.code yX1_stormAhead cX1_stormAhead 2 (some .int), Cond.methodLink RX1 201 yX1_digestRoof, Cond.static yX1_digestRoof, Cond.code yX1_digestRoof cX1_digestRoof 8 (some .long)]
def wsX1_digest_r4 : List Cond := [Cond.methodLink RX1 186 yX0_high, Cond.instanceMethod yX0_high, Cond.selects RX0 yX0_high yX0_high, Cond.code yX0_high cX0_high 1 (some .int), Cond.methodLink RX1 102 yX0_wide, Cond.instanceMethod yX0_wide, Cond.selects RX0 yX0_wide yX0_wide, Cond.code yX0_wide cX0_wide 1 (some .int), Cond.methodLink RX1 130 yX0_tellYealm, Cond.instanceMethod yX0_tellYealm, Cond.selects RX0 yX0_tellYealm yX0_tellYealm, Cond.code yX0_tellYealm cX0_tellYealm 5 (some .int), Cond.fieldLink RX0 9 "ThatchRoof$Roof" "kinds" "[I", Cond.fieldLink RX0 18 "ThatchRoof$Roof" "spars" "[I", Cond.fieldLink RX0 21 "ThatchRoof$Roof" "mosses" "[I", Cond.methodLink RX0 61 yX0_numberOf, Cond.instanceMethod yX0_numberOf, Cond.selects RX0 yX0_numberOf yX0_numberOf, Cond.code yX0_numberOf cX0_numberOf 3 (some .int), Cond.methodLink RX0 69 yX0_isBare, Cond.instanceMethod yX0_isBare, Cond.selects RX0 yX0_isBare yX0_isBare, Cond.code yX0_isBare cX0_isBare 3 (some .boolean), Cond.methodLink RX0 55 yX0_isHighest]
def wsX1_digest_r5 : List Cond := [Cond.instanceMethod yX0_isHighest, Cond.selects RX0 yX0_isHighest yX0_isHighest, Cond.code yX0_isHighest cX0_isHighest 2 (some .boolean)]
def wsX1_digest : List Cond := .code yX1_digest cX1_digest 5 (some .long) :: ((wsX1_digest_r1 ++ (wsX1_digest_r2 ++ (wsX1_digest_r3 ++ (wsX1_digest_r4 ++ wsX1_digest_r5)))) ++ wsX10 ++ wsX00)
def wsX2_init : List Cond := .code yX2_init cX2_init 3 none :: ([.fieldLink RX2 3 "ThatchRoofModel$State" "this$0" "LThatchRoofModel;", .methodLink RX2 9 objectInit, .instanceMethod objectInit, .code objectInit ⟨#[0xb1]⟩ 1 none, .arrayClass .int, .fieldLink RX2 15 "ThatchRoofModel$State" "ridge" "[I", .fieldLink RX2 19 "ThatchRoofModel$State" "torn" "[I", .fieldLink RX2 22 "ThatchRoofModel$State" "worn" "[I", .fieldLink RX2 25 "ThatchRoofModel$State" "kind" "[I", .fieldLink RX2 28 "ThatchRoofModel$State" "thick" "[I", .fieldLink RX2 31 "ThatchRoofModel$State" "spars" "[I", .fieldLink RX2 34 "ThatchRoofModel$State" "moss" "[I", .arrayClass .boolean, .fieldLink RX2 37 "ThatchRoofModel$State" "isGone" "[Z"] ++ wsX20)
def wsX2_copy : List Cond := .code yX2_copy cX2_copy 3 none :: ([.methodLink RX2 41 arraycopyName, .native arraycopyName, .static arraycopyName, .initialized "java/lang/System"])
def wsX2_become : List Cond := .code yX2_become cX2_become 2 none :: ([.fieldLink RX2 47 "ThatchRoofModel$State" "month" "I", .fieldLink RX2 15 "ThatchRoofModel$State" "ridge" "[I", .fieldLink RX2 19 "ThatchRoofModel$State" "torn" "[I", .fieldLink RX2 22 "ThatchRoofModel$State" "worn" "[I", .fieldLink RX2 25 "ThatchRoofModel$State" "kind" "[I", .fieldLink RX2 28 "ThatchRoofModel$State" "thick" "[I", .fieldLink RX2 31 "ThatchRoofModel$State" "spars" "[I", .fieldLink RX2 34 "ThatchRoofModel$State" "moss" "[I", .methodLink RX2 51 yX2_copy, .instanceMethod yX2_copy, .selects RX2 yX2_copy yX2_copy, .initialized RX2, .code yX2_copy cX2_copy 3 none, .methodLink RX2 41 arraycopyName, .native arraycopyName, .static arraycopyName, .initialized "java/lang/System"] ++ wsX20)
def wsX3_cell : List Cond := .code yX3_cell cX3_cell 3 (some .int) :: ([])
def wsX2_isThere : List Cond := .code yX2_isThere cX2_isThere 4 (some .boolean) :: ([.fieldLink RX2 25 "ThatchRoofModel$State" "kind" "[I", .static yX3_cell, .initialized RX3, .code yX3_cell cX3_cell 3 (some .int)] ++ wsX20)
def wsX2_isBare : List Cond := .code yX2_isBare cX2_isBare 4 (some .boolean) :: ([.fieldLink RX2 3 "ThatchRoofModel$State" "this$0" "LThatchRoofModel;", .methodLink RX2 59 yX2_isThere, .instanceMethod yX2_isThere, .selects RX2 yX2_isThere yX2_isThere, .initialized RX2, .code yX2_isThere cX2_isThere 4 (some .boolean), .fieldLink RX2 25 "ThatchRoofModel$State" "kind" "[I", .static yX3_cell, .initialized RX3, .code yX3_cell cX3_cell 3 (some .int)] ++ wsX20 ++ wsX30)
def wsX2_put : List Cond := .code yX2_put cX2_put 5 none :: ([.fieldLink RX2 25 "ThatchRoofModel$State" "kind" "[I", .fieldLink RX2 28 "ThatchRoofModel$State" "thick" "[I", .fieldLink RX2 31 "ThatchRoofModel$State" "spars" "[I", .fieldLink RX2 34 "ThatchRoofModel$State" "moss" "[I"] ++ wsX20)
def wsX2_mend : List Cond := .code yX2_mend cX2_mend 2 none :: ([.fieldLink RX2 34 "ThatchRoofModel$State" "moss" "[I", .fieldLink RX2 31 "ThatchRoofModel$State" "spars" "[I", .methodLink RX2 66 Lib.Math.min.name, .static Lib.Math.min.name, .initialized "java/lang/Math", .code Lib.Math.min.name Lib.Math.min.code 2 (some .int), .fieldLink RX2 28 "ThatchRoofModel$State" "thick" "[I"] ++ wsX20)
def wsX2_thinned : List Cond := .code yX2_thinned cX2_thinned 7 (some .int) :: ([.fieldLink RX2 34 "ThatchRoofModel$State" "moss" "[I", .fieldLink RX2 3 "ThatchRoofModel$State" "this$0" "LThatchRoofModel;", .fieldLink RX2 25 "ThatchRoofModel$State" "kind" "[I", .static yX3_cell, .initialized RX3, .code yX3_cell cX3_cell 3 (some .int), .methodLink RX2 72 yX2_isBare, .instanceMethod yX2_isBare, .selects RX2 yX2_isBare yX2_isBare, .initialized RX2, .code yX2_isBare cX2_isBare 4 (some .boolean), .methodLink RX2 59 yX2_isThere, .instanceMethod yX2_isThere, .selects RX2 yX2_isThere yX2_isThere, .code yX2_isThere cX2_isThere 4 (some .boolean)] ++ wsX20 ++ wsX30)
def wsX2_isTorn : List Cond := .code yX2_isTorn cX2_isTorn 8 (some .boolean) :: ([.fieldLink RX2 3 "ThatchRoofModel$State" "this$0" "LThatchRoofModel;", .fieldLink RX2 31 "ThatchRoofModel$State" "spars" "[I", .fieldLink RX2 28 "ThatchRoofModel$State" "thick" "[I", .fieldLink RX2 15 "ThatchRoofModel$State" "ridge" "[I", .fieldLink RX2 25 "ThatchRoofModel$State" "kind" "[I", .static yX3_cell, .initialized RX3, .code yX3_cell cX3_cell 3 (some .int), .methodLink RX2 72 yX2_isBare, .instanceMethod yX2_isBare, .selects RX2 yX2_isBare yX2_isBare, .initialized RX2, .code yX2_isBare cX2_isBare 4 (some .boolean), .methodLink RX2 59 yX2_isThere, .instanceMethod yX2_isThere, .selects RX2 yX2_isThere yX2_isThere, .code yX2_isThere cX2_isThere 4 (some .boolean)] ++ wsX20 ++ wsX30)
def wsX2_clear : List Cond := .code yX2_clear cX2_clear 4 (some .int) :: ([.fieldLink RX2 37 "ThatchRoofModel$State" "isGone" "[Z", .methodLink RX2 81 yX2_put, .instanceMethod yX2_put, .selects RX2 yX2_put yX2_put, .initialized RX2, .code yX2_put cX2_put 5 none, .fieldLink RX2 25 "ThatchRoofModel$State" "kind" "[I", .fieldLink RX2 28 "ThatchRoofModel$State" "thick" "[I", .fieldLink RX2 31 "ThatchRoofModel$State" "spars" "[I", .fieldLink RX2 34 "ThatchRoofModel$State" "moss" "[I"] ++ wsX20)
def wsX2_pass_r1 : List Cond := [Cond.fieldLink RX2 3 "ThatchRoofModel$State" "this$0" "LThatchRoofModel;", Cond.fieldLink RX2 25 "ThatchRoofModel$State" "kind" "[I", Cond.fieldLink RX2 28 "ThatchRoofModel$State" "thick" "[I", Cond.fieldLink RX2 37 "ThatchRoofModel$State" "isGone" "[Z", Cond.fieldLink RX2 22 "ThatchRoofModel$State" "worn" "[I", Cond.fieldLink RX2 34 "ThatchRoofModel$State" "moss" "[I", Cond.methodLink RX2 66 Lib.Math.min.name, Cond.static Lib.Math.min.name, Cond.initialized "java/lang/Math", Cond.code Lib.Math.min.name Lib.Math.min.code 2 (some .int), Cond.fieldLink RX2 19 "ThatchRoofModel$State" "torn" "[I", Cond.fieldLink RX2 15 "ThatchRoofModel$State" "ridge" "[I", Cond.methodLink RX2 103 Lib.Math.max.name, Cond.static Lib.Math.max.name, Cond.code Lib.Math.max.name Lib.Math.max.code 2 (some .int), Cond.methodLink RX2 91 yX2_thinned, Cond.instanceMethod yX2_thinned, Cond.selects RX2 yX2_thinned yX2_thinned, Cond.initialized RX2, Cond.code yX2_thinned cX2_thinned 7 (some .int), Cond.static yX3_cell, Cond.initialized RX3, Cond.code yX3_cell cX3_cell 3 (some .int), Cond.methodLink RX2 72 yX2_isBare]
def wsX2_pass_r2 : List Cond := [Cond.instanceMethod yX2_isBare, Cond.selects RX2 yX2_isBare yX2_isBare, Cond.code yX2_isBare cX2_isBare 4 (some .boolean), Cond.methodLink RX2 59 yX2_isThere, Cond.instanceMethod yX2_isThere, Cond.selects RX2 yX2_isThere yX2_isThere, Cond.code yX2_isThere cX2_isThere 4 (some .boolean), Cond.methodLink RX2 95 yX2_clear, Cond.instanceMethod yX2_clear, Cond.selects RX2 yX2_clear yX2_clear, Cond.code yX2_clear cX2_clear 4 (some .int), Cond.methodLink RX2 81 yX2_put, Cond.instanceMethod yX2_put, Cond.selects RX2 yX2_put yX2_put, Cond.code yX2_put cX2_put 5 none, Cond.fieldLink RX2 31 "ThatchRoofModel$State" "spars" "[I", Cond.methodLink RX2 99 yX2_isTorn, Cond.instanceMethod yX2_isTorn, Cond.selects RX2 yX2_isTorn yX2_isTorn, Cond.code yX2_isTorn cX2_isTorn 8 (some .boolean)]
def wsX2_pass : List Cond := .code yX2_pass cX2_pass 6 none :: ((wsX2_pass_r1 ++ wsX2_pass_r2) ++ wsX20 ++ wsX30)
def wsX2_yealms : List Cond := .code yX2_yealms cX2_yealms 4 (some .int) :: ([.fieldLink RX2 25 "ThatchRoofModel$State" "kind" "[I"] ++ wsX20)
def wsX2_thickness : List Cond := .code yX2_thickness cX2_thickness 4 (some .int) :: ([.fieldLink RX2 28 "ThatchRoofModel$State" "thick" "[I"] ++ wsX20)
def wsX2_leaks : List Cond := .code yX2_leaks cX2_leaks 6 (some .int) :: ([.fieldLink RX2 3 "ThatchRoofModel$State" "this$0" "LThatchRoofModel;", .fieldLink RX2 28 "ThatchRoofModel$State" "thick" "[I", .static yX3_cell, .initialized RX3, .code yX3_cell cX3_cell 3 (some .int), .methodLink RX2 59 yX2_isThere, .instanceMethod yX2_isThere, .selects RX2 yX2_isThere yX2_isThere, .initialized RX2, .code yX2_isThere cX2_isThere 4 (some .boolean), .fieldLink RX2 25 "ThatchRoofModel$State" "kind" "[I"] ++ wsX20 ++ wsX30)
def wsX3_init_r1 : List Cond := [Cond.methodLink RX3 1 objectInit, Cond.instanceMethod objectInit, Cond.code objectInit ⟨#[0xb1]⟩ 1 none, Cond.arrayClass .int, Cond.fieldLink RX3 9 "ThatchRoofModel" "width" "[I", Cond.fieldLink RX3 13 "ThatchRoofModel" "courses" "[I", Cond.fieldLink RX3 16 "ThatchRoofModel" "slope" "[I", Cond.fieldLink RX3 19 "ThatchRoofModel" "rain" "[I", Cond.fieldLink RX3 22 "ThatchRoofModel" "storm" "[I", Cond.fieldLink RX3 25 "ThatchRoofModel" "barn" "[I", Cond.classLink RX3 28 RX2, Cond.instantiable RX2 10, Cond.initialized RX2, Cond.fieldLink RX3 33 "ThatchRoofModel" "s" "LThatchRoofModel$State;", Cond.fieldLink RX3 37 "ThatchRoofModel" "ahead" "LThatchRoofModel$State;", Cond.methodLink RX3 30 yX2_init, Cond.instanceMethod yX2_init, Cond.code yX2_init cX2_init 3 none, Cond.fieldLink RX2 3 "ThatchRoofModel$State" "this$0" "LThatchRoofModel;", Cond.methodLink RX2 9 objectInit, Cond.fieldLink RX2 15 "ThatchRoofModel$State" "ridge" "[I", Cond.fieldLink RX2 19 "ThatchRoofModel$State" "torn" "[I", Cond.fieldLink RX2 22 "ThatchRoofModel$State" "worn" "[I", Cond.fieldLink RX2 25 "ThatchRoofModel$State" "kind" "[I"]
def wsX3_init_r2 : List Cond := [Cond.fieldLink RX2 28 "ThatchRoofModel$State" "thick" "[I", Cond.fieldLink RX2 31 "ThatchRoofModel$State" "spars" "[I", Cond.fieldLink RX2 34 "ThatchRoofModel$State" "moss" "[I", Cond.arrayClass .boolean, Cond.fieldLink RX2 37 "ThatchRoofModel$State" "isGone" "[Z"]
def wsX3_init : List Cond := .code yX3_init cX3_init 1 none :: ((wsX3_init_r1 ++ wsX3_init_r2) ++ wsX30 ++ wsX20)
def wsX3_thrown : List Cond := .code yX3_thrown cX3_thrown 1 (some .int) :: ([.fieldLink RX3 40 "ThatchRoofModel" "thrown" "I"] ++ wsX30)
def wsX3_no : List Cond := .code yX3_no cX3_no 2 (some .int) :: ([.fieldLink RX3 40 "ThatchRoofModel" "thrown" "I"] ++ wsX30)
def wsX3_isIn : List Cond := .code yX3_isIn cX3_isIn 3 (some .boolean) :: ([])
def wsX3_isRoof : List Cond := .code yX3_isRoof cX3_isRoof 2 (some .boolean) :: ([.fieldLink RX3 44 "ThatchRoofModel" "roofs" "I", .methodLink RX3 47 yX3_isIn, .static yX3_isIn, .initialized RX3, .code yX3_isIn cX3_isIn 3 (some .boolean)] ++ wsX30)
def wsX3_isCourse : List Cond := .code yX3_isCourse cX3_isCourse 3 (some .boolean) :: ([.fieldLink RX3 13 "ThatchRoofModel" "courses" "[I", .methodLink RX3 51 yX3_isRoof, .instanceMethod yX3_isRoof, .selects RX3 yX3_isRoof yX3_isRoof, .initialized RX3, .code yX3_isRoof cX3_isRoof 2 (some .boolean), .fieldLink RX3 44 "ThatchRoofModel" "roofs" "I", .methodLink RX3 47 yX3_isIn, .static yX3_isIn, .code yX3_isIn cX3_isIn 3 (some .boolean)] ++ wsX30)
def wsX3_isPlace : List Cond := .code yX3_isPlace cX3_isPlace 4 (some .boolean) :: ([.fieldLink RX3 9 "ThatchRoofModel" "width" "[I", .methodLink RX3 55 yX3_isCourse, .instanceMethod yX3_isCourse, .selects RX3 yX3_isCourse yX3_isCourse, .initialized RX3, .code yX3_isCourse cX3_isCourse 3 (some .boolean), .fieldLink RX3 13 "ThatchRoofModel" "courses" "[I", .methodLink RX3 51 yX3_isRoof, .instanceMethod yX3_isRoof, .selects RX3 yX3_isRoof yX3_isRoof, .code yX3_isRoof cX3_isRoof 2 (some .boolean), .fieldLink RX3 44 "ThatchRoofModel" "roofs" "I", .methodLink RX3 47 yX3_isIn, .static yX3_isIn, .code yX3_isIn cX3_isIn 3 (some .boolean)] ++ wsX30)
def wsX3_build : List Cond := .code yX3_build cX3_build 4 (some .int) :: ([.fieldLink RX3 40 "ThatchRoofModel" "thrown" "I", .fieldLink RX3 44 "ThatchRoofModel" "roofs" "I", .fieldLink RX3 9 "ThatchRoofModel" "width" "[I", .fieldLink RX3 13 "ThatchRoofModel" "courses" "[I", .fieldLink RX3 16 "ThatchRoofModel" "slope" "[I", .fieldLink RX3 33 "ThatchRoofModel" "s" "LThatchRoofModel$State;", .methodLink RX3 47 yX3_isIn, .static yX3_isIn, .initialized RX3, .code yX3_isIn cX3_isIn 3 (some .boolean), .methodLink RX3 59 yX3_no, .instanceMethod yX3_no, .selects RX3 yX3_no yX3_no, .code yX3_no cX3_no 2 (some .int)] ++ wsX30 ++ wsX20)
def wsX3_bring : List Cond := .code yX3_bring cX3_bring 3 (some .int) :: ([.fieldLink RX3 40 "ThatchRoofModel" "thrown" "I", .fieldLink RX3 25 "ThatchRoofModel" "barn" "[I", .methodLink RX3 47 yX3_isIn, .static yX3_isIn, .initialized RX3, .code yX3_isIn cX3_isIn 3 (some .boolean), .methodLink RX3 59 yX3_no, .instanceMethod yX3_no, .selects RX3 yX3_no yX3_no, .code yX3_no cX3_no 2 (some .int)] ++ wsX30)
def wsX3_setWeather : List Cond := .code yX3_setWeather cX3_setWeather 5 (some .int) :: ([.fieldLink RX3 40 "ThatchRoofModel" "thrown" "I", .fieldLink RX3 19 "ThatchRoofModel" "rain" "[I", .fieldLink RX3 22 "ThatchRoofModel" "storm" "[I", .methodLink RX3 47 yX3_isIn, .static yX3_isIn, .initialized RX3, .code yX3_isIn cX3_isIn 3 (some .boolean), .methodLink RX3 59 yX3_no, .instanceMethod yX3_no, .selects RX3 yX3_no yX3_no, .code yX3_no cX3_no 2 (some .int)] ++ wsX30)
def wsX3_bundles : List Cond := .code yX3_bundles cX3_bundles 1 (some .int) :: ([])
def wsX3_isFree : List Cond := .code yX3_isFree cX3_isFree 4 (some .boolean) :: ([.fieldLink RX3 33 "ThatchRoofModel" "s" "LThatchRoofModel$State;", .methodLink RX3 66 yX2_isThere, .instanceMethod yX2_isThere, .selects RX2 yX2_isThere yX2_isThere, .initialized RX2, .code yX2_isThere cX2_isThere 4 (some .boolean), .fieldLink RX2 25 "ThatchRoofModel$State" "kind" "[I", .static yX3_cell, .initialized RX3, .code yX3_cell cX3_cell 3 (some .int)] ++ wsX30 ++ wsX20)
def wsX3_lay_r1 : List Cond := [Cond.fieldLink RX3 40 "ThatchRoofModel" "thrown" "I", Cond.fieldLink RX3 25 "ThatchRoofModel" "barn" "[I", Cond.fieldLink RX3 33 "ThatchRoofModel" "s" "LThatchRoofModel$State;", Cond.methodLink RX3 69 yX3_isPlace, Cond.instanceMethod yX3_isPlace, Cond.selects RX3 yX3_isPlace yX3_isPlace, Cond.initialized RX3, Cond.code yX3_isPlace cX3_isPlace 4 (some .boolean), Cond.fieldLink RX3 9 "ThatchRoofModel" "width" "[I", Cond.methodLink RX3 55 yX3_isCourse, Cond.instanceMethod yX3_isCourse, Cond.selects RX3 yX3_isCourse yX3_isCourse, Cond.code yX3_isCourse cX3_isCourse 3 (some .boolean), Cond.fieldLink RX3 13 "ThatchRoofModel" "courses" "[I", Cond.methodLink RX3 51 yX3_isRoof, Cond.instanceMethod yX3_isRoof, Cond.selects RX3 yX3_isRoof yX3_isRoof, Cond.code yX3_isRoof cX3_isRoof 2 (some .boolean), Cond.fieldLink RX3 44 "ThatchRoofModel" "roofs" "I", Cond.methodLink RX3 47 yX3_isIn, Cond.static yX3_isIn, Cond.code yX3_isIn cX3_isIn 3 (some .boolean), Cond.methodLink RX3 59 yX3_no, Cond.instanceMethod yX3_no]
def wsX3_lay_r2 : List Cond := [Cond.selects RX3 yX3_no yX3_no, Cond.code yX3_no cX3_no 2 (some .int), Cond.methodLink RX3 72 yX3_isFree, Cond.instanceMethod yX3_isFree, Cond.selects RX3 yX3_isFree yX3_isFree, Cond.code yX3_isFree cX3_isFree 4 (some .boolean), Cond.methodLink RX3 66 yX2_isThere, Cond.instanceMethod yX2_isThere, Cond.selects RX2 yX2_isThere yX2_isThere, Cond.initialized RX2, Cond.code yX2_isThere cX2_isThere 4 (some .boolean), Cond.fieldLink RX2 25 "ThatchRoofModel$State" "kind" "[I", Cond.static yX3_cell, Cond.code yX3_cell cX3_cell 3 (some .int), Cond.methodLink RX3 75 yX3_bundles, Cond.static yX3_bundles, Cond.code yX3_bundles cX3_bundles 1 (some .int), Cond.methodLink RX3 78 yX3_cell, Cond.methodLink RX3 82 yX2_put, Cond.instanceMethod yX2_put, Cond.selects RX2 yX2_put yX2_put, Cond.code yX2_put cX2_put 5 none, Cond.fieldLink RX2 28 "ThatchRoofModel$State" "thick" "[I", Cond.fieldLink RX2 31 "ThatchRoofModel$State" "spars" "[I"]
def wsX3_lay_r3 : List Cond := [Cond.fieldLink RX2 34 "ThatchRoofModel$State" "moss" "[I"]
def wsX3_lay : List Cond := .code yX3_lay cX3_lay 7 (some .int) :: ((wsX3_lay_r1 ++ (wsX3_lay_r2 ++ wsX3_lay_r3)) ++ wsX30 ++ wsX20)
def wsX3_layCourse_r1 : List Cond := [Cond.fieldLink RX3 40 "ThatchRoofModel" "thrown" "I", Cond.fieldLink RX3 9 "ThatchRoofModel" "width" "[I", Cond.fieldLink RX3 25 "ThatchRoofModel" "barn" "[I", Cond.fieldLink RX3 33 "ThatchRoofModel" "s" "LThatchRoofModel$State;", Cond.methodLink RX3 55 yX3_isCourse, Cond.instanceMethod yX3_isCourse, Cond.selects RX3 yX3_isCourse yX3_isCourse, Cond.initialized RX3, Cond.code yX3_isCourse cX3_isCourse 3 (some .boolean), Cond.fieldLink RX3 13 "ThatchRoofModel" "courses" "[I", Cond.methodLink RX3 51 yX3_isRoof, Cond.instanceMethod yX3_isRoof, Cond.selects RX3 yX3_isRoof yX3_isRoof, Cond.code yX3_isRoof cX3_isRoof 2 (some .boolean), Cond.fieldLink RX3 44 "ThatchRoofModel" "roofs" "I", Cond.methodLink RX3 47 yX3_isIn, Cond.static yX3_isIn, Cond.code yX3_isIn cX3_isIn 3 (some .boolean), Cond.methodLink RX3 59 yX3_no, Cond.instanceMethod yX3_no, Cond.selects RX3 yX3_no yX3_no, Cond.code yX3_no cX3_no 2 (some .int), Cond.methodLink RX3 72 yX3_isFree, Cond.instanceMethod yX3_isFree]
def wsX3_layCourse_r2 : List Cond := [Cond.selects RX3 yX3_isFree yX3_isFree, Cond.code yX3_isFree cX3_isFree 4 (some .boolean), Cond.methodLink RX3 66 yX2_isThere, Cond.instanceMethod yX2_isThere, Cond.selects RX2 yX2_isThere yX2_isThere, Cond.initialized RX2, Cond.code yX2_isThere cX2_isThere 4 (some .boolean), Cond.fieldLink RX2 25 "ThatchRoofModel$State" "kind" "[I", Cond.static yX3_cell, Cond.code yX3_cell cX3_cell 3 (some .int), Cond.methodLink RX3 75 yX3_bundles, Cond.static yX3_bundles, Cond.code yX3_bundles cX3_bundles 1 (some .int), Cond.methodLink RX3 78 yX3_cell, Cond.methodLink RX3 82 yX2_put, Cond.instanceMethod yX2_put, Cond.selects RX2 yX2_put yX2_put, Cond.code yX2_put cX2_put 5 none, Cond.fieldLink RX2 28 "ThatchRoofModel$State" "thick" "[I", Cond.fieldLink RX2 31 "ThatchRoofModel$State" "spars" "[I", Cond.fieldLink RX2 34 "ThatchRoofModel$State" "moss" "[I"]
def wsX3_layCourse : List Cond := .code yX3_layCourse cX3_layCourse 8 (some .int) :: ((wsX3_layCourse_r1 ++ wsX3_layCourse_r2) ++ wsX30 ++ wsX20)
def wsX3_mend_r1 : List Cond := [Cond.fieldLink RX3 40 "ThatchRoofModel" "thrown" "I", Cond.fieldLink RX3 33 "ThatchRoofModel" "s" "LThatchRoofModel$State;", Cond.fieldLink RX3 25 "ThatchRoofModel" "barn" "[I", Cond.methodLink RX3 69 yX3_isPlace, Cond.instanceMethod yX3_isPlace, Cond.selects RX3 yX3_isPlace yX3_isPlace, Cond.initialized RX3, Cond.code yX3_isPlace cX3_isPlace 4 (some .boolean), Cond.fieldLink RX3 9 "ThatchRoofModel" "width" "[I", Cond.methodLink RX3 55 yX3_isCourse, Cond.instanceMethod yX3_isCourse, Cond.selects RX3 yX3_isCourse yX3_isCourse, Cond.code yX3_isCourse cX3_isCourse 3 (some .boolean), Cond.fieldLink RX3 13 "ThatchRoofModel" "courses" "[I", Cond.methodLink RX3 51 yX3_isRoof, Cond.instanceMethod yX3_isRoof, Cond.selects RX3 yX3_isRoof yX3_isRoof, Cond.code yX3_isRoof cX3_isRoof 2 (some .boolean), Cond.fieldLink RX3 44 "ThatchRoofModel" "roofs" "I", Cond.methodLink RX3 47 yX3_isIn, Cond.static yX3_isIn, Cond.code yX3_isIn cX3_isIn 3 (some .boolean), Cond.methodLink RX3 59 yX3_no, Cond.instanceMethod yX3_no]
def wsX3_mend_r2 : List Cond := [Cond.selects RX3 yX3_no yX3_no, Cond.code yX3_no cX3_no 2 (some .int), Cond.methodLink RX3 78 yX3_cell, Cond.static yX3_cell, Cond.code yX3_cell cX3_cell 3 (some .int), Cond.methodLink RX3 89 yX2_mend, Cond.instanceMethod yX2_mend, Cond.selects RX2 yX2_mend yX2_mend, Cond.initialized RX2, Cond.code yX2_mend cX2_mend 2 none, Cond.fieldLink RX2 34 "ThatchRoofModel$State" "moss" "[I", Cond.fieldLink RX2 31 "ThatchRoofModel$State" "spars" "[I", Cond.methodLink RX2 66 Lib.Math.min.name, Cond.static Lib.Math.min.name, Cond.initialized "java/lang/Math", Cond.code Lib.Math.min.name Lib.Math.min.code 2 (some .int), Cond.fieldLink RX2 28 "ThatchRoofModel$State" "thick" "[I"]
def wsX3_mend : List Cond := .code yX3_mend cX3_mend 5 (some .int) :: ((wsX3_mend_r1 ++ wsX3_mend_r2) ++ wsX30 ++ wsX20)
def wsX3_bind : List Cond := .code yX3_bind cX3_bind 3 (some .int) :: ([.fieldLink RX3 40 "ThatchRoofModel" "thrown" "I", .fieldLink RX3 25 "ThatchRoofModel" "barn" "[I", .fieldLink RX3 9 "ThatchRoofModel" "width" "[I", .fieldLink RX3 33 "ThatchRoofModel" "s" "LThatchRoofModel$State;", .methodLink RX3 51 yX3_isRoof, .instanceMethod yX3_isRoof, .selects RX3 yX3_isRoof yX3_isRoof, .initialized RX3, .code yX3_isRoof cX3_isRoof 2 (some .boolean), .fieldLink RX3 44 "ThatchRoofModel" "roofs" "I", .methodLink RX3 47 yX3_isIn, .static yX3_isIn, .code yX3_isIn cX3_isIn 3 (some .boolean), .methodLink RX3 59 yX3_no, .instanceMethod yX3_no, .selects RX3 yX3_no yX3_no, .code yX3_no cX3_no 2 (some .int)] ++ wsX30 ++ wsX20)
def wsX3_yealmTold : List Cond := .code yX3_yealmTold cX3_yealmTold 7 (some .int) :: ([.arrayClass .int, .fieldLink RX3 33 "ThatchRoofModel" "s" "LThatchRoofModel$State;", .methodLink RX3 78 yX3_cell, .static yX3_cell, .initialized RX3, .code yX3_cell cX3_cell 3 (some .int), .methodLink RX3 102 yX2_isBare, .instanceMethod yX2_isBare, .selects RX2 yX2_isBare yX2_isBare, .initialized RX2, .code yX2_isBare cX2_isBare 4 (some .boolean), .fieldLink RX2 3 "ThatchRoofModel$State" "this$0" "LThatchRoofModel;", .methodLink RX2 59 yX2_isThere, .instanceMethod yX2_isThere, .selects RX2 yX2_isThere yX2_isThere, .code yX2_isThere cX2_isThere 4 (some .boolean), .fieldLink RX2 25 "ThatchRoofModel$State" "kind" "[I"] ++ wsX30 ++ wsX20)
def wsX3_yealm_r1 : List Cond := [Cond.fieldLink RX3 40 "ThatchRoofModel" "thrown" "I", Cond.methodLink RX3 69 yX3_isPlace, Cond.instanceMethod yX3_isPlace, Cond.selects RX3 yX3_isPlace yX3_isPlace, Cond.initialized RX3, Cond.code yX3_isPlace cX3_isPlace 4 (some .boolean), Cond.fieldLink RX3 9 "ThatchRoofModel" "width" "[I", Cond.methodLink RX3 55 yX3_isCourse, Cond.instanceMethod yX3_isCourse, Cond.selects RX3 yX3_isCourse yX3_isCourse, Cond.code yX3_isCourse cX3_isCourse 3 (some .boolean), Cond.fieldLink RX3 13 "ThatchRoofModel" "courses" "[I", Cond.methodLink RX3 51 yX3_isRoof, Cond.instanceMethod yX3_isRoof, Cond.selects RX3 yX3_isRoof yX3_isRoof, Cond.code yX3_isRoof cX3_isRoof 2 (some .boolean), Cond.fieldLink RX3 44 "ThatchRoofModel" "roofs" "I", Cond.methodLink RX3 47 yX3_isIn, Cond.static yX3_isIn, Cond.code yX3_isIn cX3_isIn 3 (some .boolean), Cond.methodLink RX3 105 yX3_yealmTold, Cond.instanceMethod yX3_yealmTold, Cond.selects RX3 yX3_yealmTold yX3_yealmTold, Cond.code yX3_yealmTold cX3_yealmTold 7 (some .int)]
def wsX3_yealm_r2 : List Cond := [Cond.arrayClass .int, Cond.fieldLink RX3 33 "ThatchRoofModel" "s" "LThatchRoofModel$State;", Cond.methodLink RX3 78 yX3_cell, Cond.static yX3_cell, Cond.code yX3_cell cX3_cell 3 (some .int), Cond.methodLink RX3 102 yX2_isBare, Cond.instanceMethod yX2_isBare, Cond.selects RX2 yX2_isBare yX2_isBare, Cond.initialized RX2, Cond.code yX2_isBare cX2_isBare 4 (some .boolean), Cond.fieldLink RX2 3 "ThatchRoofModel$State" "this$0" "LThatchRoofModel;", Cond.methodLink RX2 59 yX2_isThere, Cond.instanceMethod yX2_isThere, Cond.selects RX2 yX2_isThere yX2_isThere, Cond.code yX2_isThere cX2_isThere 4 (some .boolean), Cond.fieldLink RX2 25 "ThatchRoofModel$State" "kind" "[I", Cond.methodLink RX3 59 yX3_no, Cond.instanceMethod yX3_no, Cond.selects RX3 yX3_no yX3_no, Cond.code yX3_no cX3_no 2 (some .int)]
def wsX3_yealm : List Cond := .code yX3_yealm cX3_yealm 5 (some .int) :: ((wsX3_yealm_r1 ++ wsX3_yealm_r2) ++ wsX30 ++ wsX20)
def wsX3_roofTold_r1 : List Cond := [Cond.arrayClass .int, Cond.fieldLink RX3 9 "ThatchRoofModel" "width" "[I", Cond.fieldLink RX3 13 "ThatchRoofModel" "courses" "[I", Cond.fieldLink RX3 16 "ThatchRoofModel" "slope" "[I", Cond.fieldLink RX3 33 "ThatchRoofModel" "s" "LThatchRoofModel$State;", Cond.methodLink RX3 109 yX2_yealms, Cond.instanceMethod yX2_yealms, Cond.selects RX2 yX2_yealms yX2_yealms, Cond.initialized RX2, Cond.code yX2_yealms cX2_yealms 4 (some .int), Cond.fieldLink RX2 25 "ThatchRoofModel$State" "kind" "[I", Cond.methodLink RX3 112 yX2_thickness, Cond.instanceMethod yX2_thickness, Cond.selects RX2 yX2_thickness yX2_thickness, Cond.code yX2_thickness cX2_thickness 4 (some .int), Cond.fieldLink RX2 28 "ThatchRoofModel$State" "thick" "[I", Cond.methodLink RX3 115 yX2_leaks, Cond.instanceMethod yX2_leaks, Cond.selects RX2 yX2_leaks yX2_leaks, Cond.code yX2_leaks cX2_leaks 6 (some .int), Cond.fieldLink RX2 3 "ThatchRoofModel$State" "this$0" "LThatchRoofModel;", Cond.static yX3_cell, Cond.initialized RX3, Cond.code yX3_cell cX3_cell 3 (some .int)]
def wsX3_roofTold_r2 : List Cond := [Cond.methodLink RX2 59 yX2_isThere, Cond.instanceMethod yX2_isThere, Cond.selects RX2 yX2_isThere yX2_isThere, Cond.code yX2_isThere cX2_isThere 4 (some .boolean)]
def wsX3_roofTold : List Cond := .code yX3_roofTold cX3_roofTold 4 (some .int) :: ((wsX3_roofTold_r1 ++ wsX3_roofTold_r2) ++ wsX30 ++ wsX20)
def wsX3_roof_r1 : List Cond := [Cond.fieldLink RX3 40 "ThatchRoofModel" "thrown" "I", Cond.methodLink RX3 51 yX3_isRoof, Cond.instanceMethod yX3_isRoof, Cond.selects RX3 yX3_isRoof yX3_isRoof, Cond.initialized RX3, Cond.code yX3_isRoof cX3_isRoof 2 (some .boolean), Cond.fieldLink RX3 44 "ThatchRoofModel" "roofs" "I", Cond.methodLink RX3 47 yX3_isIn, Cond.static yX3_isIn, Cond.code yX3_isIn cX3_isIn 3 (some .boolean), Cond.methodLink RX3 124 yX3_roofTold, Cond.instanceMethod yX3_roofTold, Cond.selects RX3 yX3_roofTold yX3_roofTold, Cond.code yX3_roofTold cX3_roofTold 4 (some .int), Cond.arrayClass .int, Cond.fieldLink RX3 9 "ThatchRoofModel" "width" "[I", Cond.fieldLink RX3 13 "ThatchRoofModel" "courses" "[I", Cond.fieldLink RX3 16 "ThatchRoofModel" "slope" "[I", Cond.fieldLink RX3 33 "ThatchRoofModel" "s" "LThatchRoofModel$State;", Cond.methodLink RX3 109 yX2_yealms, Cond.instanceMethod yX2_yealms, Cond.selects RX2 yX2_yealms yX2_yealms, Cond.initialized RX2, Cond.code yX2_yealms cX2_yealms 4 (some .int)]
def wsX3_roof_r2 : List Cond := [Cond.fieldLink RX2 25 "ThatchRoofModel$State" "kind" "[I", Cond.methodLink RX3 112 yX2_thickness, Cond.instanceMethod yX2_thickness, Cond.selects RX2 yX2_thickness yX2_thickness, Cond.code yX2_thickness cX2_thickness 4 (some .int), Cond.fieldLink RX2 28 "ThatchRoofModel$State" "thick" "[I", Cond.methodLink RX3 115 yX2_leaks, Cond.instanceMethod yX2_leaks, Cond.selects RX2 yX2_leaks yX2_leaks, Cond.code yX2_leaks cX2_leaks 6 (some .int), Cond.fieldLink RX2 3 "ThatchRoofModel$State" "this$0" "LThatchRoofModel;", Cond.static yX3_cell, Cond.code yX3_cell cX3_cell 3 (some .int), Cond.methodLink RX2 59 yX2_isThere, Cond.instanceMethod yX2_isThere, Cond.selects RX2 yX2_isThere yX2_isThere, Cond.code yX2_isThere cX2_isThere 4 (some .boolean), Cond.methodLink RX3 59 yX3_no, Cond.instanceMethod yX3_no, Cond.selects RX3 yX3_no yX3_no, Cond.code yX3_no cX3_no 2 (some .int)]
def wsX3_roof : List Cond := .code yX3_roof cX3_roof 3 (some .int) :: ((wsX3_roof_r1 ++ wsX3_roof_r2) ++ wsX30 ++ wsX20)
def wsX3_counted_r1 : List Cond := [Cond.fieldLink RX3 44 "ThatchRoofModel" "roofs" "I", Cond.fieldLink RX3 33 "ThatchRoofModel" "s" "LThatchRoofModel$State;", Cond.arrayClass .int, Cond.fieldLink RX3 25 "ThatchRoofModel" "barn" "[I", Cond.fieldLink RX3 19 "ThatchRoofModel" "rain" "[I", Cond.fieldLink RX3 22 "ThatchRoofModel" "storm" "[I", Cond.methodLink RX3 109 yX2_yealms, Cond.instanceMethod yX2_yealms, Cond.selects RX2 yX2_yealms yX2_yealms, Cond.initialized RX2, Cond.code yX2_yealms cX2_yealms 4 (some .int), Cond.fieldLink RX2 25 "ThatchRoofModel$State" "kind" "[I", Cond.methodLink RX3 115 yX2_leaks, Cond.instanceMethod yX2_leaks, Cond.selects RX2 yX2_leaks yX2_leaks, Cond.code yX2_leaks cX2_leaks 6 (some .int), Cond.fieldLink RX2 3 "ThatchRoofModel$State" "this$0" "LThatchRoofModel;", Cond.fieldLink RX2 28 "ThatchRoofModel$State" "thick" "[I", Cond.static yX3_cell, Cond.initialized RX3, Cond.code yX3_cell cX3_cell 3 (some .int), Cond.methodLink RX2 59 yX2_isThere, Cond.instanceMethod yX2_isThere, Cond.selects RX2 yX2_isThere yX2_isThere]
def wsX3_counted_r2 : List Cond := [Cond.code yX2_isThere cX2_isThere 4 (some .boolean)]
def wsX3_counted : List Cond := .code yX3_counted cX3_counted 5 (some .int) :: ((wsX3_counted_r1 ++ wsX3_counted_r2) ++ wsX30 ++ wsX20)
def wsX3_count_r1 : List Cond := [Cond.fieldLink RX3 40 "ThatchRoofModel" "thrown" "I", Cond.methodLink RX3 47 yX3_isIn, Cond.static yX3_isIn, Cond.initialized RX3, Cond.code yX3_isIn cX3_isIn 3 (some .boolean), Cond.methodLink RX3 131 yX3_counted, Cond.instanceMethod yX3_counted, Cond.selects RX3 yX3_counted yX3_counted, Cond.code yX3_counted cX3_counted 5 (some .int), Cond.fieldLink RX3 44 "ThatchRoofModel" "roofs" "I", Cond.fieldLink RX3 33 "ThatchRoofModel" "s" "LThatchRoofModel$State;", Cond.arrayClass .int, Cond.fieldLink RX3 25 "ThatchRoofModel" "barn" "[I", Cond.fieldLink RX3 19 "ThatchRoofModel" "rain" "[I", Cond.fieldLink RX3 22 "ThatchRoofModel" "storm" "[I", Cond.methodLink RX3 109 yX2_yealms, Cond.instanceMethod yX2_yealms, Cond.selects RX2 yX2_yealms yX2_yealms, Cond.initialized RX2, Cond.code yX2_yealms cX2_yealms 4 (some .int), Cond.fieldLink RX2 25 "ThatchRoofModel$State" "kind" "[I", Cond.methodLink RX3 115 yX2_leaks, Cond.instanceMethod yX2_leaks, Cond.selects RX2 yX2_leaks yX2_leaks]
def wsX3_count_r2 : List Cond := [Cond.code yX2_leaks cX2_leaks 6 (some .int), Cond.fieldLink RX2 3 "ThatchRoofModel$State" "this$0" "LThatchRoofModel;", Cond.fieldLink RX2 28 "ThatchRoofModel$State" "thick" "[I", Cond.static yX3_cell, Cond.code yX3_cell cX3_cell 3 (some .int), Cond.methodLink RX2 59 yX2_isThere, Cond.instanceMethod yX2_isThere, Cond.selects RX2 yX2_isThere yX2_isThere, Cond.code yX2_isThere cX2_isThere 4 (some .boolean), Cond.methodLink RX3 59 yX3_no, Cond.instanceMethod yX3_no, Cond.selects RX3 yX3_no yX3_no, Cond.code yX3_no cX3_no 2 (some .int)]
def wsX3_count : List Cond := .code yX3_count cX3_count 2 (some .int) :: ((wsX3_count_r1 ++ wsX3_count_r2) ++ wsX30 ++ wsX20)
def wsX3_pass_r1 : List Cond := [Cond.fieldLink RX3 40 "ThatchRoofModel" "thrown" "I", Cond.fieldLink RX3 44 "ThatchRoofModel" "roofs" "I", Cond.fieldLink RX3 33 "ThatchRoofModel" "s" "LThatchRoofModel$State;", Cond.methodLink RX3 47 yX3_isIn, Cond.static yX3_isIn, Cond.initialized RX3, Cond.code yX3_isIn cX3_isIn 3 (some .boolean), Cond.methodLink RX3 59 yX3_no, Cond.instanceMethod yX3_no, Cond.selects RX3 yX3_no yX3_no, Cond.code yX3_no cX3_no 2 (some .int), Cond.methodLink RX3 134 yX2_pass, Cond.instanceMethod yX2_pass, Cond.selects RX2 yX2_pass yX2_pass, Cond.initialized RX2, Cond.code yX2_pass cX2_pass 6 none, Cond.fieldLink RX2 3 "ThatchRoofModel$State" "this$0" "LThatchRoofModel;", Cond.fieldLink RX2 25 "ThatchRoofModel$State" "kind" "[I", Cond.fieldLink RX2 28 "ThatchRoofModel$State" "thick" "[I", Cond.fieldLink RX2 37 "ThatchRoofModel$State" "isGone" "[Z", Cond.fieldLink RX2 22 "ThatchRoofModel$State" "worn" "[I", Cond.fieldLink RX2 34 "ThatchRoofModel$State" "moss" "[I", Cond.methodLink RX2 66 Lib.Math.min.name, Cond.static Lib.Math.min.name]
def wsX3_pass_r2 : List Cond := [Cond.initialized "java/lang/Math", Cond.code Lib.Math.min.name Lib.Math.min.code 2 (some .int), Cond.fieldLink RX2 19 "ThatchRoofModel$State" "torn" "[I", Cond.fieldLink RX2 15 "ThatchRoofModel$State" "ridge" "[I", Cond.methodLink RX2 103 Lib.Math.max.name, Cond.static Lib.Math.max.name, Cond.code Lib.Math.max.name Lib.Math.max.code 2 (some .int), Cond.methodLink RX2 91 yX2_thinned, Cond.instanceMethod yX2_thinned, Cond.selects RX2 yX2_thinned yX2_thinned, Cond.code yX2_thinned cX2_thinned 7 (some .int), Cond.static yX3_cell, Cond.code yX3_cell cX3_cell 3 (some .int), Cond.methodLink RX2 72 yX2_isBare, Cond.instanceMethod yX2_isBare, Cond.selects RX2 yX2_isBare yX2_isBare, Cond.code yX2_isBare cX2_isBare 4 (some .boolean), Cond.methodLink RX2 59 yX2_isThere, Cond.instanceMethod yX2_isThere, Cond.selects RX2 yX2_isThere yX2_isThere, Cond.code yX2_isThere cX2_isThere 4 (some .boolean), Cond.methodLink RX2 95 yX2_clear, Cond.instanceMethod yX2_clear, Cond.selects RX2 yX2_clear yX2_clear]
def wsX3_pass_r3 : List Cond := [Cond.code yX2_clear cX2_clear 4 (some .int), Cond.methodLink RX2 81 yX2_put, Cond.instanceMethod yX2_put, Cond.selects RX2 yX2_put yX2_put, Cond.code yX2_put cX2_put 5 none, Cond.fieldLink RX2 31 "ThatchRoofModel$State" "spars" "[I", Cond.methodLink RX2 99 yX2_isTorn, Cond.instanceMethod yX2_isTorn, Cond.selects RX2 yX2_isTorn yX2_isTorn, Cond.code yX2_isTorn cX2_isTorn 8 (some .boolean)]
def wsX3_pass : List Cond := .code yX3_pass cX3_pass 6 (some .int) :: ((wsX3_pass_r1 ++ (wsX3_pass_r2 ++ wsX3_pass_r3)) ++ wsX30 ++ wsX20)
def wsX3_tears_r1 : List Cond := [Cond.fieldLink RX3 40 "ThatchRoofModel" "thrown" "I", Cond.fieldLink RX3 13 "ThatchRoofModel" "courses" "[I", Cond.fieldLink RX3 9 "ThatchRoofModel" "width" "[I", Cond.fieldLink RX3 33 "ThatchRoofModel" "s" "LThatchRoofModel$State;", Cond.methodLink RX3 51 yX3_isRoof, Cond.instanceMethod yX3_isRoof, Cond.selects RX3 yX3_isRoof yX3_isRoof, Cond.initialized RX3, Cond.code yX3_isRoof cX3_isRoof 2 (some .boolean), Cond.fieldLink RX3 44 "ThatchRoofModel" "roofs" "I", Cond.methodLink RX3 47 yX3_isIn, Cond.static yX3_isIn, Cond.code yX3_isIn cX3_isIn 3 (some .boolean), Cond.methodLink RX3 59 yX3_no, Cond.instanceMethod yX3_no, Cond.selects RX3 yX3_no yX3_no, Cond.code yX3_no cX3_no 2 (some .int), Cond.methodLink RX3 138 yX2_isTorn, Cond.instanceMethod yX2_isTorn, Cond.selects RX2 yX2_isTorn yX2_isTorn, Cond.initialized RX2, Cond.code yX2_isTorn cX2_isTorn 8 (some .boolean), Cond.fieldLink RX2 3 "ThatchRoofModel$State" "this$0" "LThatchRoofModel;", Cond.fieldLink RX2 31 "ThatchRoofModel$State" "spars" "[I"]
def wsX3_tears_r2 : List Cond := [Cond.fieldLink RX2 28 "ThatchRoofModel$State" "thick" "[I", Cond.fieldLink RX2 15 "ThatchRoofModel$State" "ridge" "[I", Cond.fieldLink RX2 25 "ThatchRoofModel$State" "kind" "[I", Cond.static yX3_cell, Cond.code yX3_cell cX3_cell 3 (some .int), Cond.methodLink RX2 72 yX2_isBare, Cond.instanceMethod yX2_isBare, Cond.selects RX2 yX2_isBare yX2_isBare, Cond.code yX2_isBare cX2_isBare 4 (some .boolean), Cond.methodLink RX2 59 yX2_isThere, Cond.instanceMethod yX2_isThere, Cond.selects RX2 yX2_isThere yX2_isThere, Cond.code yX2_isThere cX2_isThere 4 (some .boolean)]
def wsX3_tears : List Cond := .code yX3_tears cX3_tears 6 (some .int) :: ((wsX3_tears_r1 ++ wsX3_tears_r2) ++ wsX30 ++ wsX20)
def wsX3_holds_r1 : List Cond := [Cond.fieldLink RX3 40 "ThatchRoofModel" "thrown" "I", Cond.fieldLink RX3 33 "ThatchRoofModel" "s" "LThatchRoofModel$State;", Cond.fieldLink RX3 37 "ThatchRoofModel" "ahead" "LThatchRoofModel$State;", Cond.methodLink RX3 51 yX3_isRoof, Cond.instanceMethod yX3_isRoof, Cond.selects RX3 yX3_isRoof yX3_isRoof, Cond.initialized RX3, Cond.code yX3_isRoof cX3_isRoof 2 (some .boolean), Cond.fieldLink RX3 44 "ThatchRoofModel" "roofs" "I", Cond.methodLink RX3 47 yX3_isIn, Cond.static yX3_isIn, Cond.code yX3_isIn cX3_isIn 3 (some .boolean), Cond.methodLink RX3 59 yX3_no, Cond.instanceMethod yX3_no, Cond.selects RX3 yX3_no yX3_no, Cond.code yX3_no cX3_no 2 (some .int), Cond.methodLink RX3 115 yX2_leaks, Cond.instanceMethod yX2_leaks, Cond.selects RX2 yX2_leaks yX2_leaks, Cond.initialized RX2, Cond.code yX2_leaks cX2_leaks 6 (some .int), Cond.fieldLink RX2 3 "ThatchRoofModel$State" "this$0" "LThatchRoofModel;", Cond.fieldLink RX2 28 "ThatchRoofModel$State" "thick" "[I", Cond.static yX3_cell]
def wsX3_holds_r2 : List Cond := [Cond.code yX3_cell cX3_cell 3 (some .int), Cond.methodLink RX2 59 yX2_isThere, Cond.instanceMethod yX2_isThere, Cond.selects RX2 yX2_isThere yX2_isThere, Cond.code yX2_isThere cX2_isThere 4 (some .boolean), Cond.fieldLink RX2 25 "ThatchRoofModel$State" "kind" "[I", Cond.methodLink RX3 142 yX2_become, Cond.instanceMethod yX2_become, Cond.selects RX2 yX2_become yX2_become, Cond.code yX2_become cX2_become 2 none, Cond.fieldLink RX2 47 "ThatchRoofModel$State" "month" "I", Cond.fieldLink RX2 15 "ThatchRoofModel$State" "ridge" "[I", Cond.fieldLink RX2 19 "ThatchRoofModel$State" "torn" "[I", Cond.fieldLink RX2 22 "ThatchRoofModel$State" "worn" "[I", Cond.fieldLink RX2 31 "ThatchRoofModel$State" "spars" "[I", Cond.fieldLink RX2 34 "ThatchRoofModel$State" "moss" "[I", Cond.methodLink RX2 51 yX2_copy, Cond.instanceMethod yX2_copy, Cond.selects RX2 yX2_copy yX2_copy, Cond.code yX2_copy cX2_copy 3 none, Cond.methodLink RX2 41 arraycopyName, Cond.native arraycopyName, Cond.static arraycopyName, Cond.initialized "java/lang/System"]
def wsX3_holds_r3 : List Cond := [Cond.methodLink RX3 134 yX2_pass, Cond.instanceMethod yX2_pass, Cond.selects RX2 yX2_pass yX2_pass, Cond.code yX2_pass cX2_pass 6 none, Cond.fieldLink RX2 37 "ThatchRoofModel$State" "isGone" "[Z", Cond.methodLink RX2 66 Lib.Math.min.name, Cond.static Lib.Math.min.name, Cond.initialized "java/lang/Math", Cond.code Lib.Math.min.name Lib.Math.min.code 2 (some .int), Cond.methodLink RX2 103 Lib.Math.max.name, Cond.static Lib.Math.max.name, Cond.code Lib.Math.max.name Lib.Math.max.code 2 (some .int), Cond.methodLink RX2 91 yX2_thinned, Cond.instanceMethod yX2_thinned, Cond.selects RX2 yX2_thinned yX2_thinned, Cond.code yX2_thinned cX2_thinned 7 (some .int), Cond.methodLink RX2 72 yX2_isBare, Cond.instanceMethod yX2_isBare, Cond.selects RX2 yX2_isBare yX2_isBare, Cond.code yX2_isBare cX2_isBare 4 (some .boolean), Cond.methodLink RX2 95 yX2_clear, Cond.instanceMethod yX2_clear, Cond.selects RX2 yX2_clear yX2_clear, Cond.code yX2_clear cX2_clear 4 (some .int)]
def wsX3_holds_r4 : List Cond := [Cond.methodLink RX2 81 yX2_put, Cond.instanceMethod yX2_put, Cond.selects RX2 yX2_put yX2_put, Cond.code yX2_put cX2_put 5 none, Cond.methodLink RX2 99 yX2_isTorn, Cond.instanceMethod yX2_isTorn, Cond.selects RX2 yX2_isTorn yX2_isTorn, Cond.code yX2_isTorn cX2_isTorn 8 (some .boolean)]
def wsX3_holds : List Cond := .code yX3_holds cX3_holds 4 (some .int) :: ((wsX3_holds_r1 ++ (wsX3_holds_r2 ++ (wsX3_holds_r3 ++ wsX3_holds_r4))) ++ wsX30 ++ wsX20)
def wsX3_foresee_r1 : List Cond := [Cond.fieldLink RX3 40 "ThatchRoofModel" "thrown" "I", Cond.fieldLink RX3 37 "ThatchRoofModel" "ahead" "LThatchRoofModel$State;", Cond.fieldLink RX3 33 "ThatchRoofModel" "s" "LThatchRoofModel$State;", Cond.methodLink RX3 51 yX3_isRoof, Cond.instanceMethod yX3_isRoof, Cond.selects RX3 yX3_isRoof yX3_isRoof, Cond.initialized RX3, Cond.code yX3_isRoof cX3_isRoof 2 (some .boolean), Cond.fieldLink RX3 44 "ThatchRoofModel" "roofs" "I", Cond.methodLink RX3 47 yX3_isIn, Cond.static yX3_isIn, Cond.code yX3_isIn cX3_isIn 3 (some .boolean), Cond.methodLink RX3 59 yX3_no, Cond.instanceMethod yX3_no, Cond.selects RX3 yX3_no yX3_no, Cond.code yX3_no cX3_no 2 (some .int), Cond.methodLink RX3 142 yX2_become, Cond.instanceMethod yX2_become, Cond.selects RX2 yX2_become yX2_become, Cond.initialized RX2, Cond.code yX2_become cX2_become 2 none, Cond.fieldLink RX2 47 "ThatchRoofModel$State" "month" "I", Cond.fieldLink RX2 15 "ThatchRoofModel$State" "ridge" "[I", Cond.fieldLink RX2 19 "ThatchRoofModel$State" "torn" "[I"]
def wsX3_foresee_r2 : List Cond := [Cond.fieldLink RX2 22 "ThatchRoofModel$State" "worn" "[I", Cond.fieldLink RX2 25 "ThatchRoofModel$State" "kind" "[I", Cond.fieldLink RX2 28 "ThatchRoofModel$State" "thick" "[I", Cond.fieldLink RX2 31 "ThatchRoofModel$State" "spars" "[I", Cond.fieldLink RX2 34 "ThatchRoofModel$State" "moss" "[I", Cond.methodLink RX2 51 yX2_copy, Cond.instanceMethod yX2_copy, Cond.selects RX2 yX2_copy yX2_copy, Cond.code yX2_copy cX2_copy 3 none, Cond.methodLink RX2 41 arraycopyName, Cond.native arraycopyName, Cond.static arraycopyName, Cond.initialized "java/lang/System", Cond.methodLink RX3 134 yX2_pass, Cond.instanceMethod yX2_pass, Cond.selects RX2 yX2_pass yX2_pass, Cond.code yX2_pass cX2_pass 6 none, Cond.fieldLink RX2 3 "ThatchRoofModel$State" "this$0" "LThatchRoofModel;", Cond.fieldLink RX2 37 "ThatchRoofModel$State" "isGone" "[Z", Cond.methodLink RX2 66 Lib.Math.min.name, Cond.static Lib.Math.min.name, Cond.initialized "java/lang/Math", Cond.code Lib.Math.min.name Lib.Math.min.code 2 (some .int), Cond.methodLink RX2 103 Lib.Math.max.name]
def wsX3_foresee_r3 : List Cond := [Cond.static Lib.Math.max.name, Cond.code Lib.Math.max.name Lib.Math.max.code 2 (some .int), Cond.methodLink RX2 91 yX2_thinned, Cond.instanceMethod yX2_thinned, Cond.selects RX2 yX2_thinned yX2_thinned, Cond.code yX2_thinned cX2_thinned 7 (some .int), Cond.static yX3_cell, Cond.code yX3_cell cX3_cell 3 (some .int), Cond.methodLink RX2 72 yX2_isBare, Cond.instanceMethod yX2_isBare, Cond.selects RX2 yX2_isBare yX2_isBare, Cond.code yX2_isBare cX2_isBare 4 (some .boolean), Cond.methodLink RX2 59 yX2_isThere, Cond.instanceMethod yX2_isThere, Cond.selects RX2 yX2_isThere yX2_isThere, Cond.code yX2_isThere cX2_isThere 4 (some .boolean), Cond.methodLink RX2 95 yX2_clear, Cond.instanceMethod yX2_clear, Cond.selects RX2 yX2_clear yX2_clear, Cond.code yX2_clear cX2_clear 4 (some .int), Cond.methodLink RX2 81 yX2_put, Cond.instanceMethod yX2_put, Cond.selects RX2 yX2_put yX2_put, Cond.code yX2_put cX2_put 5 none]
def wsX3_foresee_r4 : List Cond := [Cond.methodLink RX2 99 yX2_isTorn, Cond.instanceMethod yX2_isTorn, Cond.selects RX2 yX2_isTorn yX2_isTorn, Cond.code yX2_isTorn cX2_isTorn 8 (some .boolean), Cond.methodLink RX3 109 yX2_yealms, Cond.instanceMethod yX2_yealms, Cond.selects RX2 yX2_yealms yX2_yealms, Cond.code yX2_yealms cX2_yealms 4 (some .int), Cond.methodLink RX3 115 yX2_leaks, Cond.instanceMethod yX2_leaks, Cond.selects RX2 yX2_leaks yX2_leaks, Cond.code yX2_leaks cX2_leaks 6 (some .int)]
def wsX3_foresee : List Cond := .code yX3_foresee cX3_foresee 5 (some .int) :: ((wsX3_foresee_r1 ++ (wsX3_foresee_r2 ++ (wsX3_foresee_r3 ++ wsX3_foresee_r4))) ++ wsX30 ++ wsX20)
def wsX3_left_r1 : List Cond := [Cond.fieldLink RX3 37 "ThatchRoofModel" "ahead" "LThatchRoofModel$State;", Cond.fieldLink RX3 33 "ThatchRoofModel" "s" "LThatchRoofModel$State;", Cond.methodLink RX3 142 yX2_become, Cond.instanceMethod yX2_become, Cond.selects RX2 yX2_become yX2_become, Cond.initialized RX2, Cond.code yX2_become cX2_become 2 none, Cond.fieldLink RX2 47 "ThatchRoofModel$State" "month" "I", Cond.fieldLink RX2 15 "ThatchRoofModel$State" "ridge" "[I", Cond.fieldLink RX2 19 "ThatchRoofModel$State" "torn" "[I", Cond.fieldLink RX2 22 "ThatchRoofModel$State" "worn" "[I", Cond.fieldLink RX2 25 "ThatchRoofModel$State" "kind" "[I", Cond.fieldLink RX2 28 "ThatchRoofModel$State" "thick" "[I", Cond.fieldLink RX2 31 "ThatchRoofModel$State" "spars" "[I", Cond.fieldLink RX2 34 "ThatchRoofModel$State" "moss" "[I", Cond.methodLink RX2 51 yX2_copy, Cond.instanceMethod yX2_copy, Cond.selects RX2 yX2_copy yX2_copy, Cond.code yX2_copy cX2_copy 3 none, Cond.methodLink RX2 41 arraycopyName, Cond.native arraycopyName, Cond.static arraycopyName, Cond.initialized "java/lang/System", Cond.methodLink RX3 89 yX2_mend]
def wsX3_left_r2 : List Cond := [Cond.instanceMethod yX2_mend, Cond.selects RX2 yX2_mend yX2_mend, Cond.code yX2_mend cX2_mend 2 none, Cond.methodLink RX2 66 Lib.Math.min.name, Cond.static Lib.Math.min.name, Cond.initialized "java/lang/Math", Cond.code Lib.Math.min.name Lib.Math.min.code 2 (some .int), Cond.methodLink RX3 134 yX2_pass, Cond.instanceMethod yX2_pass, Cond.selects RX2 yX2_pass yX2_pass, Cond.code yX2_pass cX2_pass 6 none, Cond.fieldLink RX2 3 "ThatchRoofModel$State" "this$0" "LThatchRoofModel;", Cond.fieldLink RX2 37 "ThatchRoofModel$State" "isGone" "[Z", Cond.methodLink RX2 103 Lib.Math.max.name, Cond.static Lib.Math.max.name, Cond.code Lib.Math.max.name Lib.Math.max.code 2 (some .int), Cond.methodLink RX2 91 yX2_thinned, Cond.instanceMethod yX2_thinned, Cond.selects RX2 yX2_thinned yX2_thinned, Cond.code yX2_thinned cX2_thinned 7 (some .int), Cond.static yX3_cell, Cond.initialized RX3, Cond.code yX3_cell cX3_cell 3 (some .int), Cond.methodLink RX2 72 yX2_isBare]
def wsX3_left_r3 : List Cond := [Cond.instanceMethod yX2_isBare, Cond.selects RX2 yX2_isBare yX2_isBare, Cond.code yX2_isBare cX2_isBare 4 (some .boolean), Cond.methodLink RX2 59 yX2_isThere, Cond.instanceMethod yX2_isThere, Cond.selects RX2 yX2_isThere yX2_isThere, Cond.code yX2_isThere cX2_isThere 4 (some .boolean), Cond.methodLink RX2 95 yX2_clear, Cond.instanceMethod yX2_clear, Cond.selects RX2 yX2_clear yX2_clear, Cond.code yX2_clear cX2_clear 4 (some .int), Cond.methodLink RX2 81 yX2_put, Cond.instanceMethod yX2_put, Cond.selects RX2 yX2_put yX2_put, Cond.code yX2_put cX2_put 5 none, Cond.methodLink RX2 99 yX2_isTorn, Cond.instanceMethod yX2_isTorn, Cond.selects RX2 yX2_isTorn yX2_isTorn, Cond.code yX2_isTorn cX2_isTorn 8 (some .boolean), Cond.methodLink RX3 109 yX2_yealms, Cond.instanceMethod yX2_yealms, Cond.selects RX2 yX2_yealms yX2_yealms, Cond.code yX2_yealms cX2_yealms 4 (some .int)]
def wsX3_left : List Cond := .code yX3_left cX3_left 5 (some .int) :: ((wsX3_left_r1 ++ (wsX3_left_r2 ++ wsX3_left_r3)) ++ wsX30 ++ wsX20)
def wsX3_advise_r1 : List Cond := [Cond.fieldLink RX3 40 "ThatchRoofModel" "thrown" "I", Cond.fieldLink RX3 9 "ThatchRoofModel" "width" "[I", Cond.fieldLink RX3 13 "ThatchRoofModel" "courses" "[I", Cond.fieldLink RX3 33 "ThatchRoofModel" "s" "LThatchRoofModel$State;", Cond.methodLink RX3 51 yX3_isRoof, Cond.instanceMethod yX3_isRoof, Cond.selects RX3 yX3_isRoof yX3_isRoof, Cond.initialized RX3, Cond.code yX3_isRoof cX3_isRoof 2 (some .boolean), Cond.fieldLink RX3 44 "ThatchRoofModel" "roofs" "I", Cond.methodLink RX3 47 yX3_isIn, Cond.static yX3_isIn, Cond.code yX3_isIn cX3_isIn 3 (some .boolean), Cond.methodLink RX3 59 yX3_no, Cond.instanceMethod yX3_no, Cond.selects RX3 yX3_no yX3_no, Cond.code yX3_no cX3_no 2 (some .int), Cond.methodLink RX3 146 yX3_left, Cond.instanceMethod yX3_left, Cond.selects RX3 yX3_left yX3_left, Cond.code yX3_left cX3_left 5 (some .int), Cond.fieldLink RX3 37 "ThatchRoofModel" "ahead" "LThatchRoofModel$State;", Cond.methodLink RX3 142 yX2_become, Cond.instanceMethod yX2_become]
def wsX3_advise_r2 : List Cond := [Cond.selects RX2 yX2_become yX2_become, Cond.initialized RX2, Cond.code yX2_become cX2_become 2 none, Cond.fieldLink RX2 47 "ThatchRoofModel$State" "month" "I", Cond.fieldLink RX2 15 "ThatchRoofModel$State" "ridge" "[I", Cond.fieldLink RX2 19 "ThatchRoofModel$State" "torn" "[I", Cond.fieldLink RX2 22 "ThatchRoofModel$State" "worn" "[I", Cond.fieldLink RX2 25 "ThatchRoofModel$State" "kind" "[I", Cond.fieldLink RX2 28 "ThatchRoofModel$State" "thick" "[I", Cond.fieldLink RX2 31 "ThatchRoofModel$State" "spars" "[I", Cond.fieldLink RX2 34 "ThatchRoofModel$State" "moss" "[I", Cond.methodLink RX2 51 yX2_copy, Cond.instanceMethod yX2_copy, Cond.selects RX2 yX2_copy yX2_copy, Cond.code yX2_copy cX2_copy 3 none, Cond.methodLink RX2 41 arraycopyName, Cond.native arraycopyName, Cond.static arraycopyName, Cond.initialized "java/lang/System", Cond.methodLink RX3 89 yX2_mend, Cond.instanceMethod yX2_mend, Cond.selects RX2 yX2_mend yX2_mend, Cond.code yX2_mend cX2_mend 2 none, Cond.methodLink RX2 66 Lib.Math.min.name]
def wsX3_advise_r3 : List Cond := [Cond.static Lib.Math.min.name, Cond.initialized "java/lang/Math", Cond.code Lib.Math.min.name Lib.Math.min.code 2 (some .int), Cond.methodLink RX3 134 yX2_pass, Cond.instanceMethod yX2_pass, Cond.selects RX2 yX2_pass yX2_pass, Cond.code yX2_pass cX2_pass 6 none, Cond.fieldLink RX2 3 "ThatchRoofModel$State" "this$0" "LThatchRoofModel;", Cond.fieldLink RX2 37 "ThatchRoofModel$State" "isGone" "[Z", Cond.methodLink RX2 103 Lib.Math.max.name, Cond.static Lib.Math.max.name, Cond.code Lib.Math.max.name Lib.Math.max.code 2 (some .int), Cond.methodLink RX2 91 yX2_thinned, Cond.instanceMethod yX2_thinned, Cond.selects RX2 yX2_thinned yX2_thinned, Cond.code yX2_thinned cX2_thinned 7 (some .int), Cond.static yX3_cell, Cond.code yX3_cell cX3_cell 3 (some .int), Cond.methodLink RX2 72 yX2_isBare, Cond.instanceMethod yX2_isBare, Cond.selects RX2 yX2_isBare yX2_isBare, Cond.code yX2_isBare cX2_isBare 4 (some .boolean), Cond.methodLink RX2 59 yX2_isThere, Cond.instanceMethod yX2_isThere]
def wsX3_advise_r4 : List Cond := [Cond.selects RX2 yX2_isThere yX2_isThere, Cond.code yX2_isThere cX2_isThere 4 (some .boolean), Cond.methodLink RX2 95 yX2_clear, Cond.instanceMethod yX2_clear, Cond.selects RX2 yX2_clear yX2_clear, Cond.code yX2_clear cX2_clear 4 (some .int), Cond.methodLink RX2 81 yX2_put, Cond.instanceMethod yX2_put, Cond.selects RX2 yX2_put yX2_put, Cond.code yX2_put cX2_put 5 none, Cond.methodLink RX2 99 yX2_isTorn, Cond.instanceMethod yX2_isTorn, Cond.selects RX2 yX2_isTorn yX2_isTorn, Cond.code yX2_isTorn cX2_isTorn 8 (some .boolean), Cond.methodLink RX3 109 yX2_yealms, Cond.instanceMethod yX2_yealms, Cond.selects RX2 yX2_yealms yX2_yealms, Cond.code yX2_yealms cX2_yealms 4 (some .int), Cond.methodLink RX3 78 yX3_cell]
def wsX3_advise : List Cond := .code yX3_advise cX3_advise 8 (some .int) :: ((wsX3_advise_r1 ++ (wsX3_advise_r2 ++ (wsX3_advise_r3 ++ wsX3_advise_r4))) ++ wsX30 ++ wsX20)
def wsX3_needs_r1 : List Cond := [Cond.fieldLink RX3 40 "ThatchRoofModel" "thrown" "I", Cond.fieldLink RX3 9 "ThatchRoofModel" "width" "[I", Cond.fieldLink RX3 13 "ThatchRoofModel" "courses" "[I", Cond.fieldLink RX3 33 "ThatchRoofModel" "s" "LThatchRoofModel$State;", Cond.methodLink RX3 51 yX3_isRoof, Cond.instanceMethod yX3_isRoof, Cond.selects RX3 yX3_isRoof yX3_isRoof, Cond.initialized RX3, Cond.code yX3_isRoof cX3_isRoof 2 (some .boolean), Cond.fieldLink RX3 44 "ThatchRoofModel" "roofs" "I", Cond.methodLink RX3 47 yX3_isIn, Cond.static yX3_isIn, Cond.code yX3_isIn cX3_isIn 3 (some .boolean), Cond.methodLink RX3 59 yX3_no, Cond.instanceMethod yX3_no, Cond.selects RX3 yX3_no yX3_no, Cond.code yX3_no cX3_no 2 (some .int), Cond.methodLink RX3 109 yX2_yealms, Cond.instanceMethod yX2_yealms, Cond.selects RX2 yX2_yealms yX2_yealms, Cond.initialized RX2, Cond.code yX2_yealms cX2_yealms 4 (some .int), Cond.fieldLink RX2 25 "ThatchRoofModel$State" "kind" "[I", Cond.methodLink RX3 75 yX3_bundles]
def wsX3_needs_r2 : List Cond := [Cond.static yX3_bundles, Cond.code yX3_bundles cX3_bundles 1 (some .int)]
def wsX3_needs : List Cond := .code yX3_needs cX3_needs 3 (some .int) :: ((wsX3_needs_r1 ++ wsX3_needs_r2) ++ wsX30 ++ wsX20)
def wsX3_mean : List Cond := .code yX3_mean cX3_mean 4 (some .double) :: ([.fieldLink RX3 40 "ThatchRoofModel" "thrown" "I", .fieldLink RX3 44 "ThatchRoofModel" "roofs" "I", .fieldLink RX3 33 "ThatchRoofModel" "s" "LThatchRoofModel$State;", .methodLink RX3 112 yX2_thickness, .instanceMethod yX2_thickness, .selects RX2 yX2_thickness yX2_thickness, .initialized RX2, .code yX2_thickness cX2_thickness 4 (some .int), .fieldLink RX2 28 "ThatchRoofModel$State" "thick" "[I", .methodLink RX3 109 yX2_yealms, .instanceMethod yX2_yealms, .selects RX2 yX2_yealms yX2_yealms, .code yX2_yealms cX2_yealms 4 (some .int), .fieldLink RX2 25 "ThatchRoofModel$State" "kind" "[I"] ++ wsX30 ++ wsX20)
def wsX3_digest_r1 : List Cond := [Cond.fieldLink RX3 40 "ThatchRoofModel" "thrown" "I", Cond.constantLong RX3 149 (739), Cond.constantLong RX3 151 (31), Cond.fieldLink RX3 19 "ThatchRoofModel" "rain" "[I", Cond.fieldLink RX3 22 "ThatchRoofModel" "storm" "[I", Cond.fieldLink RX3 44 "ThatchRoofModel" "roofs" "I", Cond.fieldLink RX3 13 "ThatchRoofModel" "courses" "[I", Cond.fieldLink RX3 9 "ThatchRoofModel" "width" "[I", Cond.methodLink RX3 131 yX3_counted, Cond.instanceMethod yX3_counted, Cond.selects RX3 yX3_counted yX3_counted, Cond.initialized RX3, Cond.code yX3_counted cX3_counted 5 (some .int), Cond.fieldLink RX3 33 "ThatchRoofModel" "s" "LThatchRoofModel$State;", Cond.arrayClass .int, Cond.fieldLink RX3 25 "ThatchRoofModel" "barn" "[I", Cond.methodLink RX3 109 yX2_yealms, Cond.instanceMethod yX2_yealms, Cond.selects RX2 yX2_yealms yX2_yealms, Cond.initialized RX2, Cond.code yX2_yealms cX2_yealms 4 (some .int), Cond.fieldLink RX2 25 "ThatchRoofModel$State" "kind" "[I", Cond.methodLink RX3 115 yX2_leaks, Cond.instanceMethod yX2_leaks]
def wsX3_digest_r2 : List Cond := [Cond.selects RX2 yX2_leaks yX2_leaks, Cond.code yX2_leaks cX2_leaks 6 (some .int), Cond.fieldLink RX2 3 "ThatchRoofModel$State" "this$0" "LThatchRoofModel;", Cond.fieldLink RX2 28 "ThatchRoofModel$State" "thick" "[I", Cond.static yX3_cell, Cond.code yX3_cell cX3_cell 3 (some .int), Cond.methodLink RX2 59 yX2_isThere, Cond.instanceMethod yX2_isThere, Cond.selects RX2 yX2_isThere yX2_isThere, Cond.code yX2_isThere cX2_isThere 4 (some .boolean), Cond.methodLink RX3 124 yX3_roofTold, Cond.instanceMethod yX3_roofTold, Cond.selects RX3 yX3_roofTold yX3_roofTold, Cond.code yX3_roofTold cX3_roofTold 4 (some .int), Cond.fieldLink RX3 16 "ThatchRoofModel" "slope" "[I", Cond.methodLink RX3 112 yX2_thickness, Cond.instanceMethod yX2_thickness, Cond.selects RX2 yX2_thickness yX2_thickness, Cond.code yX2_thickness cX2_thickness 4 (some .int), Cond.methodLink RX3 105 yX3_yealmTold, Cond.instanceMethod yX3_yealmTold, Cond.selects RX3 yX3_yealmTold yX3_yealmTold, Cond.code yX3_yealmTold cX3_yealmTold 7 (some .int), Cond.methodLink RX3 78 yX3_cell]
def wsX3_digest_r3 : List Cond := [Cond.methodLink RX3 102 yX2_isBare, Cond.instanceMethod yX2_isBare, Cond.selects RX2 yX2_isBare yX2_isBare, Cond.code yX2_isBare cX2_isBare 4 (some .boolean)]
def wsX3_digest : List Cond := .code yX3_digest cX3_digest 7 (some .long) :: ((wsX3_digest_r1 ++ (wsX3_digest_r2 ++ wsX3_digest_r3)) ++ wsX30 ++ wsX20)
def wsJ9_max_7cf53 : List Cond := .code yJ9_max_7cf53 cJ9_max_7cf53 2 (some .int) :: ([])
def wsJ9_min_7cf53 : List Cond := .code yJ9_min_7cf53 cJ9_min_7cf53 2 (some .int) :: ([])
def wsL_build_r1 : List Cond := [Cond.classLink RL 13 "java/lang/IllegalArgumentException", Cond.classLink RL 15 "java/lang/IllegalStateException", Cond.methodLink RL 7 yX1_build, Cond.instanceMethod yX1_build, Cond.selects RX1 yX1_build yX1_build, Cond.initialized RX1, Cond.code yX1_build cX1_build 5 (some .int), Cond.classLink RX1 36 "java/lang/IllegalArgumentException", Cond.initialized "java/lang/IllegalArgumentException", Cond.classLink RX1 47 "java/lang/IllegalStateException", Cond.initialized "java/lang/IllegalStateException", Cond.fieldLink RX1 43 "ThatchRoof" "built" "I", Cond.fieldLink RX1 11 "ThatchRoof" "roofs" "[LThatchRoof$Roof;", Cond.classLink RX1 9 RX0, Cond.instantiable RX0 10, Cond.initialized RX0, Cond.methodLink RX1 32 yX1_isWithin, Cond.static yX1_isWithin, Cond.code yX1_isWithin cX1_isWithin 3 (some .boolean), Cond.methodLink RX1 25 yX0_init, Cond.instanceMethod yX0_init, Cond.code yX0_init cX0_init 4 none, Cond.methodLink RX0 3 objectInit, Cond.instanceMethod objectInit]
def wsL_build_r2 : List Cond := [Cond.code objectInit ⟨#[0xb1]⟩ 1 none, Cond.arrayClass .int, Cond.fieldLink RX0 9 "ThatchRoof$Roof" "kinds" "[I", Cond.fieldLink RX0 15 "ThatchRoof$Roof" "thicknesses" "[I", Cond.fieldLink RX0 18 "ThatchRoof$Roof" "spars" "[I", Cond.fieldLink RX0 21 "ThatchRoof$Roof" "mosses" "[I", Cond.fieldLink RX0 24 "ThatchRoof$Roof" "width" "I", Cond.fieldLink RX0 28 "ThatchRoof$Roof" "courses" "I", Cond.fieldLink RX0 31 "ThatchRoof$Roof" "slope" "I", Cond.fieldLink RX0 34 "ThatchRoof$Roof" "ridge" "I"]
def wsL_build : List Cond := .codeWith yL_build cL_build 6 (some .int) [(0, 12, 15, 13), (0, 12, 19, 15)] :: ((wsL_build_r1 ++ wsL_build_r2) ++ wsX10 ++ wsX00 ++ (vx_atS RX1 40 "java/lang/IllegalArgumentException" ["java/lang/RuntimeException", "java/lang/Exception"]).filter goodWord ++ (vx_atS RX1 51 "java/lang/IllegalStateException" ["java/lang/RuntimeException", "java/lang/Exception"]).filter goodWord)
def wsL_bring : List Cond := .codeWith yL_bring cL_bring 5 (some .int) [(0, 10, 13, 21), (0, 10, 17, 13), (0, 10, 21, 15)] :: ([.classLink RL 21 "java/lang/IndexOutOfBoundsException", .classLink RL 13 "java/lang/IllegalArgumentException", .classLink RL 15 "java/lang/IllegalStateException", .methodLink RL 17 yX1_bring, .instanceMethod yX1_bring, .selects RX1 yX1_bring yX1_bring, .initialized RX1, .code yX1_bring cX1_bring 3 (some .int), .classLink RX1 56 "java/lang/IndexOutOfBoundsException", .initialized "java/lang/IndexOutOfBoundsException", .classLink RX1 36 "java/lang/IllegalArgumentException", .initialized "java/lang/IllegalArgumentException", .classLink RX1 47 "java/lang/IllegalStateException", .initialized "java/lang/IllegalStateException", .fieldLink RX1 15 "ThatchRoof" "barn" "[I", .methodLink RX1 52 yX1_isKind, .static yX1_isKind, .code yX1_isKind cX1_isKind 1 (some .boolean), .methodLink RX1 32 yX1_isWithin, .static yX1_isWithin, .code yX1_isWithin cX1_isWithin 3 (some .boolean)] ++ wsX10 ++ (vx_atS RX1 60 "java/lang/IndexOutOfBoundsException" ["java/lang/RuntimeException", "java/lang/Exception"]).filter goodWord ++ (vx_atS RX1 40 "java/lang/IllegalArgumentException" ["java/lang/RuntimeException", "java/lang/Exception"]).filter goodWord ++ (vx_atS RX1 51 "java/lang/IllegalStateException" ["java/lang/RuntimeException", "java/lang/Exception"]).filter goodWord)
def wsL_setWeather : List Cond := .codeWith yL_setWeather cL_setWeather 6 (some .int) [(0, 12, 15, 21), (0, 12, 19, 13)] :: ([.classLink RL 21 "java/lang/IndexOutOfBoundsException", .classLink RL 13 "java/lang/IllegalArgumentException", .methodLink RL 23 yX1_setWeather, .instanceMethod yX1_setWeather, .selects RX1 yX1_setWeather yX1_setWeather, .initialized RX1, .code yX1_setWeather cX1_setWeather 5 (some .int), .classLink RX1 56 "java/lang/IndexOutOfBoundsException", .initialized "java/lang/IndexOutOfBoundsException", .classLink RX1 36 "java/lang/IllegalArgumentException", .initialized "java/lang/IllegalArgumentException", .fieldLink RX1 19 "ThatchRoof" "rains" "[I", .fieldLink RX1 22 "ThatchRoof" "storms" "[I", .methodLink RX1 32 yX1_isWithin, .static yX1_isWithin, .code yX1_isWithin cX1_isWithin 3 (some .boolean)] ++ wsX10 ++ (vx_atS RX1 60 "java/lang/IndexOutOfBoundsException" ["java/lang/RuntimeException", "java/lang/Exception"]).filter goodWord ++ (vx_atS RX1 40 "java/lang/IllegalArgumentException" ["java/lang/RuntimeException", "java/lang/Exception"]).filter goodWord)
def wsL_lay_r1 : List Cond := [Cond.classLink RL 21 "java/lang/IndexOutOfBoundsException", Cond.classLink RL 13 "java/lang/IllegalArgumentException", Cond.classLink RL 15 "java/lang/IllegalStateException", Cond.methodLink RL 26 yX1_lay, Cond.instanceMethod yX1_lay, Cond.selects RX1 yX1_lay yX1_lay, Cond.initialized RX1, Cond.code yX1_lay cX1_lay 8 (some .int), Cond.classLink RX1 56 "java/lang/IndexOutOfBoundsException", Cond.initialized "java/lang/IndexOutOfBoundsException", Cond.classLink RX1 36 "java/lang/IllegalArgumentException", Cond.initialized "java/lang/IllegalArgumentException", Cond.classLink RX1 47 "java/lang/IllegalStateException", Cond.initialized "java/lang/IllegalStateException", Cond.fieldLink RX1 15 "ThatchRoof" "barn" "[I", Cond.methodLink RX1 69 yX1_roofAt, Cond.instanceMethod yX1_roofAt, Cond.selects RX1 yX1_roofAt yX1_roofAt, Cond.code yX1_roofAt cX1_roofAt 2 (some (.object "ThatchRoof$Roof")), Cond.fieldLink RX1 11 "ThatchRoof" "roofs" "[LThatchRoof$Roof;", Cond.methodLink RX1 32 yX1_isWithin, Cond.static yX1_isWithin, Cond.code yX1_isWithin cX1_isWithin 3 (some .boolean), Cond.methodLink RX1 73 yX0_hasPlace]
def wsL_lay_r2 : List Cond := [Cond.instanceMethod yX0_hasPlace, Cond.selects RX0 yX0_hasPlace yX0_hasPlace, Cond.initialized RX0, Cond.code yX0_hasPlace cX0_hasPlace 3 (some .boolean), Cond.fieldLink RX0 24 "ThatchRoof$Roof" "width" "I", Cond.methodLink RX0 43 yX0_hasCourse, Cond.instanceMethod yX0_hasCourse, Cond.selects RX0 yX0_hasCourse yX0_hasCourse, Cond.code yX0_hasCourse cX0_hasCourse 2 (some .boolean), Cond.fieldLink RX0 28 "ThatchRoof$Roof" "courses" "I", Cond.methodLink RX1 52 yX1_isKind, Cond.static yX1_isKind, Cond.code yX1_isKind cX1_isKind 1 (some .boolean), Cond.methodLink RX1 79 yX1_isYealm, Cond.static yX1_isYealm, Cond.code yX1_isYealm cX1_isYealm 2 (some .boolean), Cond.methodLink RX1 84 yX0_canCarry, Cond.instanceMethod yX0_canCarry, Cond.selects RX0 yX0_canCarry yX0_canCarry, Cond.code yX0_canCarry cX0_canCarry 3 (some .boolean), Cond.methodLink RX0 51 yX0_hasYealm, Cond.instanceMethod yX0_hasYealm, Cond.selects RX0 yX0_hasYealm yX0_hasYealm, Cond.code yX0_hasYealm cX0_hasYealm 3 (some .boolean)]
def wsL_lay_r3 : List Cond := [Cond.methodLink RX0 47 yX0_thicknessAt, Cond.instanceMethod yX0_thicknessAt, Cond.selects RX0 yX0_thicknessAt yX0_thicknessAt, Cond.code yX0_thicknessAt cX0_thicknessAt 3 (some .int), Cond.fieldLink RX0 15 "ThatchRoof$Roof" "thicknesses" "[I", Cond.methodLink RX1 87 yX1_bundlesFor, Cond.static yX1_bundlesFor, Cond.code yX1_bundlesFor cX1_bundlesFor 1 (some .int), Cond.methodLink RX1 93 yX0_putYealm, Cond.instanceMethod yX0_putYealm, Cond.selects RX0 yX0_putYealm yX0_putYealm, Cond.code yX0_putYealm cX0_putYealm 7 none, Cond.fieldLink RX0 9 "ThatchRoof$Roof" "kinds" "[I", Cond.fieldLink RX0 18 "ThatchRoof$Roof" "spars" "[I", Cond.fieldLink RX0 21 "ThatchRoof$Roof" "mosses" "[I", Cond.methodLink RX0 58 yX0_hasPlace, Cond.methodLink RX0 61 yX0_numberOf, Cond.instanceMethod yX0_numberOf, Cond.selects RX0 yX0_numberOf yX0_numberOf, Cond.code yX0_numberOf cX0_numberOf 3 (some .int)]
def wsL_lay : List Cond := .codeWith yL_lay cL_lay 9 (some .int) [(0, 18, 21, 21), (0, 18, 25, 13), (0, 18, 29, 15)] :: ((wsL_lay_r1 ++ (wsL_lay_r2 ++ wsL_lay_r3)) ++ wsX10 ++ wsX00 ++ (vx_atS RX1 60 "java/lang/IndexOutOfBoundsException" ["java/lang/RuntimeException", "java/lang/Exception"]).filter goodWord ++ (vx_atS RX1 40 "java/lang/IllegalArgumentException" ["java/lang/RuntimeException", "java/lang/Exception"]).filter goodWord ++ (vx_atS RX1 51 "java/lang/IllegalStateException" ["java/lang/RuntimeException", "java/lang/Exception"]).filter goodWord)
def wsL_layCourse_r1 : List Cond := [Cond.classLink RL 21 "java/lang/IndexOutOfBoundsException", Cond.classLink RL 13 "java/lang/IllegalArgumentException", Cond.methodLink RL 30 yX1_layCourse, Cond.instanceMethod yX1_layCourse, Cond.selects RX1 yX1_layCourse yX1_layCourse, Cond.initialized RX1, Cond.code yX1_layCourse cX1_layCourse 9 (some .int), Cond.classLink RX1 56 "java/lang/IndexOutOfBoundsException", Cond.initialized "java/lang/IndexOutOfBoundsException", Cond.classLink RX1 36 "java/lang/IllegalArgumentException", Cond.initialized "java/lang/IllegalArgumentException", Cond.fieldLink RX1 15 "ThatchRoof" "barn" "[I", Cond.methodLink RX1 69 yX1_roofAt, Cond.instanceMethod yX1_roofAt, Cond.selects RX1 yX1_roofAt yX1_roofAt, Cond.code yX1_roofAt cX1_roofAt 2 (some (.object "ThatchRoof$Roof")), Cond.fieldLink RX1 11 "ThatchRoof" "roofs" "[LThatchRoof$Roof;", Cond.methodLink RX1 32 yX1_isWithin, Cond.static yX1_isWithin, Cond.code yX1_isWithin cX1_isWithin 3 (some .boolean), Cond.methodLink RX1 97 yX0_hasCourse, Cond.instanceMethod yX0_hasCourse, Cond.selects RX0 yX0_hasCourse yX0_hasCourse, Cond.initialized RX0]
def wsL_layCourse_r2 : List Cond := [Cond.code yX0_hasCourse cX0_hasCourse 2 (some .boolean), Cond.fieldLink RX0 28 "ThatchRoof$Roof" "courses" "I", Cond.methodLink RX1 52 yX1_isKind, Cond.static yX1_isKind, Cond.code yX1_isKind cX1_isKind 1 (some .boolean), Cond.methodLink RX1 79 yX1_isYealm, Cond.static yX1_isYealm, Cond.code yX1_isYealm cX1_isYealm 2 (some .boolean), Cond.methodLink RX1 102 yX0_wide, Cond.instanceMethod yX0_wide, Cond.selects RX0 yX0_wide yX0_wide, Cond.code yX0_wide cX0_wide 1 (some .int), Cond.fieldLink RX0 24 "ThatchRoof$Roof" "width" "I", Cond.methodLink RX1 84 yX0_canCarry, Cond.instanceMethod yX0_canCarry, Cond.selects RX0 yX0_canCarry yX0_canCarry, Cond.code yX0_canCarry cX0_canCarry 3 (some .boolean), Cond.methodLink RX0 51 yX0_hasYealm, Cond.instanceMethod yX0_hasYealm, Cond.selects RX0 yX0_hasYealm yX0_hasYealm, Cond.code yX0_hasYealm cX0_hasYealm 3 (some .boolean), Cond.methodLink RX0 47 yX0_thicknessAt, Cond.instanceMethod yX0_thicknessAt, Cond.selects RX0 yX0_thicknessAt yX0_thicknessAt]
def wsL_layCourse_r3 : List Cond := [Cond.code yX0_thicknessAt cX0_thicknessAt 3 (some .int), Cond.fieldLink RX0 15 "ThatchRoof$Roof" "thicknesses" "[I", Cond.methodLink RX1 87 yX1_bundlesFor, Cond.static yX1_bundlesFor, Cond.code yX1_bundlesFor cX1_bundlesFor 1 (some .int), Cond.methodLink RX1 93 yX0_putYealm, Cond.instanceMethod yX0_putYealm, Cond.selects RX0 yX0_putYealm yX0_putYealm, Cond.code yX0_putYealm cX0_putYealm 7 none, Cond.fieldLink RX0 9 "ThatchRoof$Roof" "kinds" "[I", Cond.fieldLink RX0 18 "ThatchRoof$Roof" "spars" "[I", Cond.fieldLink RX0 21 "ThatchRoof$Roof" "mosses" "[I", Cond.methodLink RX0 58 yX0_hasPlace, Cond.instanceMethod yX0_hasPlace, Cond.selects RX0 yX0_hasPlace yX0_hasPlace, Cond.code yX0_hasPlace cX0_hasPlace 3 (some .boolean), Cond.methodLink RX0 43 yX0_hasCourse, Cond.methodLink RX0 61 yX0_numberOf, Cond.instanceMethod yX0_numberOf, Cond.selects RX0 yX0_numberOf yX0_numberOf, Cond.code yX0_numberOf cX0_numberOf 3 (some .int)]
def wsL_layCourse : List Cond := .codeWith yL_layCourse cL_layCourse 8 (some .int) [(0, 16, 19, 21), (0, 16, 23, 13)] :: ((wsL_layCourse_r1 ++ (wsL_layCourse_r2 ++ wsL_layCourse_r3)) ++ wsX10 ++ wsX00 ++ (vx_atS RX1 60 "java/lang/IndexOutOfBoundsException" ["java/lang/RuntimeException", "java/lang/Exception"]).filter goodWord ++ (vx_atS RX1 40 "java/lang/IllegalArgumentException" ["java/lang/RuntimeException", "java/lang/Exception"]).filter goodWord)
def wsL_mend_r1 : List Cond := [Cond.classLink RL 21 "java/lang/IndexOutOfBoundsException", Cond.classLink RL 15 "java/lang/IllegalStateException", Cond.methodLink RL 34 yX1_mend, Cond.instanceMethod yX1_mend, Cond.selects RX1 yX1_mend yX1_mend, Cond.initialized RX1, Cond.code yX1_mend cX1_mend 6 (some .int), Cond.classLink RX1 56 "java/lang/IndexOutOfBoundsException", Cond.initialized "java/lang/IndexOutOfBoundsException", Cond.classLink RX1 47 "java/lang/IllegalStateException", Cond.initialized "java/lang/IllegalStateException", Cond.fieldLink RX1 15 "ThatchRoof" "barn" "[I", Cond.methodLink RX1 69 yX1_roofAt, Cond.instanceMethod yX1_roofAt, Cond.selects RX1 yX1_roofAt yX1_roofAt, Cond.code yX1_roofAt cX1_roofAt 2 (some (.object "ThatchRoof$Roof")), Cond.fieldLink RX1 11 "ThatchRoof" "roofs" "[LThatchRoof$Roof;", Cond.methodLink RX1 32 yX1_isWithin, Cond.static yX1_isWithin, Cond.code yX1_isWithin cX1_isWithin 3 (some .boolean), Cond.methodLink RX1 73 yX0_hasPlace, Cond.instanceMethod yX0_hasPlace, Cond.selects RX0 yX0_hasPlace yX0_hasPlace, Cond.initialized RX0]
def wsL_mend_r2 : List Cond := [Cond.code yX0_hasPlace cX0_hasPlace 3 (some .boolean), Cond.fieldLink RX0 24 "ThatchRoof$Roof" "width" "I", Cond.methodLink RX0 43 yX0_hasCourse, Cond.instanceMethod yX0_hasCourse, Cond.selects RX0 yX0_hasCourse yX0_hasCourse, Cond.code yX0_hasCourse cX0_hasCourse 2 (some .boolean), Cond.fieldLink RX0 28 "ThatchRoof$Roof" "courses" "I", Cond.methodLink RX1 108 yX0_kindAt, Cond.instanceMethod yX0_kindAt, Cond.selects RX0 yX0_kindAt yX0_kindAt, Cond.code yX0_kindAt cX0_kindAt 3 (some .int), Cond.fieldLink RX0 9 "ThatchRoof$Roof" "kinds" "[I", Cond.methodLink RX0 51 yX0_hasYealm, Cond.instanceMethod yX0_hasYealm, Cond.selects RX0 yX0_hasYealm yX0_hasYealm, Cond.code yX0_hasYealm cX0_hasYealm 3 (some .boolean), Cond.methodLink RX0 47 yX0_thicknessAt, Cond.instanceMethod yX0_thicknessAt, Cond.selects RX0 yX0_thicknessAt yX0_thicknessAt, Cond.code yX0_thicknessAt cX0_thicknessAt 3 (some .int), Cond.fieldLink RX0 15 "ThatchRoof$Roof" "thicknesses" "[I", Cond.methodLink RX0 61 yX0_numberOf, Cond.instanceMethod yX0_numberOf, Cond.selects RX0 yX0_numberOf yX0_numberOf]
def wsL_mend_r3 : List Cond := [Cond.code yX0_numberOf cX0_numberOf 3 (some .int), Cond.methodLink RX1 52 yX1_isKind, Cond.static yX1_isKind, Cond.code yX1_isKind cX1_isKind 1 (some .boolean), Cond.methodLink RX1 114 yX0_improve, Cond.instanceMethod yX0_improve, Cond.selects RX0 yX0_improve yX0_improve, Cond.code yX0_improve cX0_improve 4 none, Cond.fieldLink RX0 21 "ThatchRoof$Roof" "mosses" "[I", Cond.fieldLink RX0 18 "ThatchRoof$Roof" "spars" "[I", Cond.methodLink RX0 64 Lib.Math.min.name, Cond.static Lib.Math.min.name, Cond.initialized "java/lang/Math", Cond.code Lib.Math.min.name Lib.Math.min.code 2 (some .int), Cond.methodLink RX1 118 yX0_thicknessAt]
def wsL_mend : List Cond := .codeWith yL_mend cL_mend 6 (some .int) [(0, 12, 15, 21), (0, 12, 19, 15)] :: ((wsL_mend_r1 ++ (wsL_mend_r2 ++ wsL_mend_r3)) ++ wsX10 ++ wsX00 ++ (vx_atS RX1 60 "java/lang/IndexOutOfBoundsException" ["java/lang/RuntimeException", "java/lang/Exception"]).filter goodWord ++ (vx_atS RX1 51 "java/lang/IllegalStateException" ["java/lang/RuntimeException", "java/lang/Exception"]).filter goodWord)
def wsL_bind_r1 : List Cond := [Cond.classLink RL 21 "java/lang/IndexOutOfBoundsException", Cond.classLink RL 15 "java/lang/IllegalStateException", Cond.methodLink RL 37 yX1_bind, Cond.instanceMethod yX1_bind, Cond.selects RX1 yX1_bind yX1_bind, Cond.initialized RX1, Cond.code yX1_bind cX1_bind 3 (some .int), Cond.classLink RX1 56 "java/lang/IndexOutOfBoundsException", Cond.initialized "java/lang/IndexOutOfBoundsException", Cond.classLink RX1 47 "java/lang/IllegalStateException", Cond.initialized "java/lang/IllegalStateException", Cond.fieldLink RX1 15 "ThatchRoof" "barn" "[I", Cond.methodLink RX1 69 yX1_roofAt, Cond.instanceMethod yX1_roofAt, Cond.selects RX1 yX1_roofAt yX1_roofAt, Cond.code yX1_roofAt cX1_roofAt 2 (some (.object "ThatchRoof$Roof")), Cond.fieldLink RX1 11 "ThatchRoof" "roofs" "[LThatchRoof$Roof;", Cond.methodLink RX1 32 yX1_isWithin, Cond.static yX1_isWithin, Cond.code yX1_isWithin cX1_isWithin 3 (some .boolean), Cond.methodLink RX1 102 yX0_wide, Cond.instanceMethod yX0_wide, Cond.selects RX0 yX0_wide yX0_wide, Cond.initialized RX0]
def wsL_bind_r2 : List Cond := [Cond.code yX0_wide cX0_wide 1 (some .int), Cond.fieldLink RX0 24 "ThatchRoof$Roof" "width" "I", Cond.methodLink RX1 125 yX0_renewRidge, Cond.instanceMethod yX0_renewRidge, Cond.selects RX0 yX0_renewRidge yX0_renewRidge, Cond.code yX0_renewRidge cX0_renewRidge 2 (some .int), Cond.fieldLink RX0 34 "ThatchRoof$Roof" "ridge" "I"]
def wsL_bind : List Cond := .codeWith yL_bind cL_bind 4 (some .int) [(0, 9, 12, 21), (0, 9, 15, 15)] :: ((wsL_bind_r1 ++ wsL_bind_r2) ++ wsX10 ++ wsX00 ++ (vx_atS RX1 60 "java/lang/IndexOutOfBoundsException" ["java/lang/RuntimeException", "java/lang/Exception"]).filter goodWord ++ (vx_atS RX1 51 "java/lang/IllegalStateException" ["java/lang/RuntimeException", "java/lang/Exception"]).filter goodWord)
def wsL_yealm_r1 : List Cond := [Cond.classLink RL 21 "java/lang/IndexOutOfBoundsException", Cond.methodLink RL 41 yX1_yealm, Cond.instanceMethod yX1_yealm, Cond.selects RX1 yX1_yealm yX1_yealm, Cond.initialized RX1, Cond.code yX1_yealm cX1_yealm 6 (some .int), Cond.classLink RX1 56 "java/lang/IndexOutOfBoundsException", Cond.initialized "java/lang/IndexOutOfBoundsException", Cond.methodLink RX1 69 yX1_roofAt, Cond.instanceMethod yX1_roofAt, Cond.selects RX1 yX1_roofAt yX1_roofAt, Cond.code yX1_roofAt cX1_roofAt 2 (some (.object "ThatchRoof$Roof")), Cond.fieldLink RX1 11 "ThatchRoof" "roofs" "[LThatchRoof$Roof;", Cond.methodLink RX1 32 yX1_isWithin, Cond.static yX1_isWithin, Cond.code yX1_isWithin cX1_isWithin 3 (some .boolean), Cond.methodLink RX1 73 yX0_hasPlace, Cond.instanceMethod yX0_hasPlace, Cond.selects RX0 yX0_hasPlace yX0_hasPlace, Cond.initialized RX0, Cond.code yX0_hasPlace cX0_hasPlace 3 (some .boolean), Cond.fieldLink RX0 24 "ThatchRoof$Roof" "width" "I", Cond.methodLink RX0 43 yX0_hasCourse, Cond.instanceMethod yX0_hasCourse]
def wsL_yealm_r2 : List Cond := [Cond.selects RX0 yX0_hasCourse yX0_hasCourse, Cond.code yX0_hasCourse cX0_hasCourse 2 (some .boolean), Cond.fieldLink RX0 28 "ThatchRoof$Roof" "courses" "I", Cond.methodLink RX1 130 yX0_tellYealm, Cond.instanceMethod yX0_tellYealm, Cond.selects RX0 yX0_tellYealm yX0_tellYealm, Cond.code yX0_tellYealm cX0_tellYealm 5 (some .int), Cond.fieldLink RX0 9 "ThatchRoof$Roof" "kinds" "[I", Cond.fieldLink RX0 15 "ThatchRoof$Roof" "thicknesses" "[I", Cond.fieldLink RX0 18 "ThatchRoof$Roof" "spars" "[I", Cond.fieldLink RX0 21 "ThatchRoof$Roof" "mosses" "[I", Cond.methodLink RX0 51 yX0_hasYealm, Cond.instanceMethod yX0_hasYealm, Cond.selects RX0 yX0_hasYealm yX0_hasYealm, Cond.code yX0_hasYealm cX0_hasYealm 3 (some .boolean), Cond.methodLink RX0 47 yX0_thicknessAt, Cond.instanceMethod yX0_thicknessAt, Cond.selects RX0 yX0_thicknessAt yX0_thicknessAt, Cond.code yX0_thicknessAt cX0_thicknessAt 3 (some .int), Cond.methodLink RX0 61 yX0_numberOf, Cond.instanceMethod yX0_numberOf, Cond.selects RX0 yX0_numberOf yX0_numberOf, Cond.code yX0_numberOf cX0_numberOf 3 (some .int), Cond.methodLink RX0 69 yX0_isBare]
def wsL_yealm_r3 : List Cond := [Cond.instanceMethod yX0_isBare, Cond.selects RX0 yX0_isBare yX0_isBare, Cond.code yX0_isBare cX0_isBare 3 (some .boolean), Cond.methodLink RX0 55 yX0_isHighest, Cond.instanceMethod yX0_isHighest, Cond.selects RX0 yX0_isHighest yX0_isHighest, Cond.code yX0_isHighest cX0_isHighest 2 (some .boolean)]
def wsL_yealm : List Cond := .codeWith yL_yealm cL_yealm 7 (some .int) [(0, 14, 17, 21)] :: ((wsL_yealm_r1 ++ (wsL_yealm_r2 ++ wsL_yealm_r3)) ++ wsX10 ++ wsX00 ++ (vx_atS RX1 60 "java/lang/IndexOutOfBoundsException" ["java/lang/RuntimeException", "java/lang/Exception"]).filter goodWord)
def wsL_roof_r1 : List Cond := [Cond.classLink RL 21 "java/lang/IndexOutOfBoundsException", Cond.methodLink RL 45 yX1_roof, Cond.instanceMethod yX1_roof, Cond.selects RX1 yX1_roof yX1_roof, Cond.initialized RX1, Cond.code yX1_roof cX1_roof 4 (some .int), Cond.classLink RX1 56 "java/lang/IndexOutOfBoundsException", Cond.initialized "java/lang/IndexOutOfBoundsException", Cond.methodLink RX1 69 yX1_roofAt, Cond.instanceMethod yX1_roofAt, Cond.selects RX1 yX1_roofAt yX1_roofAt, Cond.code yX1_roofAt cX1_roofAt 2 (some (.object "ThatchRoof$Roof")), Cond.fieldLink RX1 11 "ThatchRoof" "roofs" "[LThatchRoof$Roof;", Cond.methodLink RX1 32 yX1_isWithin, Cond.static yX1_isWithin, Cond.code yX1_isWithin cX1_isWithin 3 (some .boolean), Cond.methodLink RX1 136 yX0_tell, Cond.instanceMethod yX0_tell, Cond.selects RX0 yX0_tell yX0_tell, Cond.initialized RX0, Cond.code yX0_tell cX0_tell 2 (some .int), Cond.fieldLink RX0 24 "ThatchRoof$Roof" "width" "I", Cond.fieldLink RX0 28 "ThatchRoof$Roof" "courses" "I", Cond.fieldLink RX0 31 "ThatchRoof$Roof" "slope" "I"]
def wsL_roof_r2 : List Cond := [Cond.fieldLink RX0 34 "ThatchRoof$Roof" "ridge" "I", Cond.fieldLink RX0 82 "ThatchRoof$Roof" "torn" "I", Cond.fieldLink RX0 85 "ThatchRoof$Roof" "worn" "I", Cond.methodLink RX0 72 yX0_yealms, Cond.instanceMethod yX0_yealms, Cond.selects RX0 yX0_yealms yX0_yealms, Cond.code yX0_yealms cX0_yealms 4 (some .int), Cond.methodLink RX0 51 yX0_hasYealm, Cond.instanceMethod yX0_hasYealm, Cond.selects RX0 yX0_hasYealm yX0_hasYealm, Cond.code yX0_hasYealm cX0_hasYealm 3 (some .boolean), Cond.methodLink RX0 47 yX0_thicknessAt, Cond.instanceMethod yX0_thicknessAt, Cond.selects RX0 yX0_thicknessAt yX0_thicknessAt, Cond.code yX0_thicknessAt cX0_thicknessAt 3 (some .int), Cond.fieldLink RX0 15 "ThatchRoof$Roof" "thicknesses" "[I", Cond.methodLink RX0 76 yX0_thicknessInAll, Cond.instanceMethod yX0_thicknessInAll, Cond.selects RX0 yX0_thicknessInAll yX0_thicknessInAll, Cond.code yX0_thicknessInAll cX0_thicknessInAll 3 (some .int), Cond.methodLink RX0 88 yX0_thicknessOver, Cond.instanceMethod yX0_thicknessOver, Cond.selects RX0 yX0_thicknessOver yX0_thicknessOver, Cond.code yX0_thicknessOver cX0_thicknessOver 4 (some .int)]
def wsL_roof_r3 : List Cond := [Cond.methodLink RX0 79 yX0_leaks, Cond.instanceMethod yX0_leaks, Cond.selects RX0 yX0_leaks yX0_leaks, Cond.code yX0_leaks cX0_leaks 3 (some .int)]
def wsL_roof : List Cond := .codeWith yL_roof cL_roof 5 (some .int) [(0, 10, 13, 21)] :: ((wsL_roof_r1 ++ (wsL_roof_r2 ++ wsL_roof_r3)) ++ wsX10 ++ wsX00 ++ (vx_atS RX1 60 "java/lang/IndexOutOfBoundsException" ["java/lang/RuntimeException", "java/lang/Exception"]).filter goodWord)
def wsL_count_r1 : List Cond := [Cond.classLink RL 21 "java/lang/IndexOutOfBoundsException", Cond.methodLink RL 48 yX1_count, Cond.instanceMethod yX1_count, Cond.selects RX1 yX1_count yX1_count, Cond.initialized RX1, Cond.code yX1_count cX1_count 2 (some .int), Cond.classLink RX1 56 "java/lang/IndexOutOfBoundsException", Cond.initialized "java/lang/IndexOutOfBoundsException", Cond.methodLink RX1 32 yX1_isWithin, Cond.static yX1_isWithin, Cond.code yX1_isWithin cX1_isWithin 3 (some .boolean), Cond.methodLink RX1 141 yX1_tally, Cond.instanceMethod yX1_tally, Cond.selects RX1 yX1_tally yX1_tally, Cond.code yX1_tally cX1_tally 2 (some .int), Cond.fieldLink RX1 155 "ThatchRoof" "month" "I", Cond.fieldLink RX1 43 "ThatchRoof" "built" "I", Cond.fieldLink RX1 15 "ThatchRoof" "barn" "[I", Cond.methodLink RX1 213 yX1_tallyOfRoofs, Cond.instanceMethod yX1_tallyOfRoofs, Cond.selects RX1 yX1_tallyOfRoofs yX1_tallyOfRoofs, Cond.code yX1_tallyOfRoofs cX1_tallyOfRoofs 5 (some .int), Cond.fieldLink RX1 11 "ThatchRoof" "roofs" "[LThatchRoof$Roof;", Cond.methodLink RX1 136 yX0_tell]
def wsL_count_r2 : List Cond := [Cond.instanceMethod yX0_tell, Cond.selects RX0 yX0_tell yX0_tell, Cond.initialized RX0, Cond.code yX0_tell cX0_tell 2 (some .int), Cond.fieldLink RX0 24 "ThatchRoof$Roof" "width" "I", Cond.fieldLink RX0 28 "ThatchRoof$Roof" "courses" "I", Cond.fieldLink RX0 31 "ThatchRoof$Roof" "slope" "I", Cond.fieldLink RX0 34 "ThatchRoof$Roof" "ridge" "I", Cond.fieldLink RX0 82 "ThatchRoof$Roof" "torn" "I", Cond.fieldLink RX0 85 "ThatchRoof$Roof" "worn" "I", Cond.methodLink RX0 72 yX0_yealms, Cond.instanceMethod yX0_yealms, Cond.selects RX0 yX0_yealms yX0_yealms, Cond.code yX0_yealms cX0_yealms 4 (some .int), Cond.methodLink RX0 51 yX0_hasYealm, Cond.instanceMethod yX0_hasYealm, Cond.selects RX0 yX0_hasYealm yX0_hasYealm, Cond.code yX0_hasYealm cX0_hasYealm 3 (some .boolean), Cond.methodLink RX0 47 yX0_thicknessAt, Cond.instanceMethod yX0_thicknessAt, Cond.selects RX0 yX0_thicknessAt yX0_thicknessAt, Cond.code yX0_thicknessAt cX0_thicknessAt 3 (some .int), Cond.fieldLink RX0 15 "ThatchRoof$Roof" "thicknesses" "[I", Cond.methodLink RX0 76 yX0_thicknessInAll]
def wsL_count_r3 : List Cond := [Cond.instanceMethod yX0_thicknessInAll, Cond.selects RX0 yX0_thicknessInAll yX0_thicknessInAll, Cond.code yX0_thicknessInAll cX0_thicknessInAll 3 (some .int), Cond.methodLink RX0 88 yX0_thicknessOver, Cond.instanceMethod yX0_thicknessOver, Cond.selects RX0 yX0_thicknessOver yX0_thicknessOver, Cond.code yX0_thicknessOver cX0_thicknessOver 4 (some .int), Cond.methodLink RX0 79 yX0_leaks, Cond.instanceMethod yX0_leaks, Cond.selects RX0 yX0_leaks yX0_leaks, Cond.code yX0_leaks cX0_leaks 3 (some .int), Cond.methodLink RX1 146 yX1_rainAhead, Cond.instanceMethod yX1_rainAhead, Cond.selects RX1 yX1_rainAhead yX1_rainAhead, Cond.code yX1_rainAhead cX1_rainAhead 2 (some .int), Cond.fieldLink RX1 19 "ThatchRoof" "rains" "[I", Cond.methodLink RX1 210 yX1_monthOfYear, Cond.instanceMethod yX1_monthOfYear, Cond.selects RX1 yX1_monthOfYear yX1_monthOfYear, Cond.code yX1_monthOfYear cX1_monthOfYear 2 (some .int), Cond.methodLink RX1 205 yJ9_floorMod_7cf53, Cond.static yJ9_floorMod_7cf53, Cond.initialized RJ9, Cond.code yJ9_floorMod_7cf53 cJ9_floorMod_7cf53 3 (some .int)]
def wsL_count_r4 : List Cond := [Cond.methodLink RX1 149 yX1_stormAhead, Cond.instanceMethod yX1_stormAhead, Cond.selects RX1 yX1_stormAhead yX1_stormAhead, Cond.code yX1_stormAhead cX1_stormAhead 2 (some .int), Cond.fieldLink RX1 22 "ThatchRoof" "storms" "[I"]
def wsL_count : List Cond := .codeWith yL_count cL_count 4 (some .int) [(0, 9, 12, 21)] :: ((wsL_count_r1 ++ (wsL_count_r2 ++ (wsL_count_r3 ++ wsL_count_r4))) ++ wsX10 ++ wsX00 ++ (vx_atS RX1 60 "java/lang/IndexOutOfBoundsException" ["java/lang/RuntimeException", "java/lang/Exception"]).filter goodWord)
def wsL_pass_r1 : List Cond := [Cond.classLink RL 13 "java/lang/IllegalArgumentException", Cond.methodLink RL 51 yX1_pass, Cond.instanceMethod yX1_pass, Cond.selects RX1 yX1_pass yX1_pass, Cond.initialized RX1, Cond.code yX1_pass cX1_pass 6 (some .int), Cond.classLink RX1 36 "java/lang/IllegalArgumentException", Cond.initialized "java/lang/IllegalArgumentException", Cond.fieldLink RX1 11 "ThatchRoof" "roofs" "[LThatchRoof$Roof;", Cond.fieldLink RX1 155 "ThatchRoof" "month" "I", Cond.methodLink RX1 32 yX1_isWithin, Cond.static yX1_isWithin, Cond.code yX1_isWithin cX1_isWithin 3 (some .boolean), Cond.methodLink RX1 146 yX1_rainAhead, Cond.instanceMethod yX1_rainAhead, Cond.selects RX1 yX1_rainAhead yX1_rainAhead, Cond.code yX1_rainAhead cX1_rainAhead 2 (some .int), Cond.fieldLink RX1 19 "ThatchRoof" "rains" "[I", Cond.methodLink RX1 210 yX1_monthOfYear, Cond.instanceMethod yX1_monthOfYear, Cond.selects RX1 yX1_monthOfYear yX1_monthOfYear, Cond.code yX1_monthOfYear cX1_monthOfYear 2 (some .int), Cond.methodLink RX1 205 yJ9_floorMod_7cf53, Cond.static yJ9_floorMod_7cf53]
def wsL_pass_r2 : List Cond := [Cond.initialized RJ9, Cond.code yJ9_floorMod_7cf53 cJ9_floorMod_7cf53 3 (some .int), Cond.methodLink RX1 149 yX1_stormAhead, Cond.instanceMethod yX1_stormAhead, Cond.selects RX1 yX1_stormAhead yX1_stormAhead, Cond.code yX1_stormAhead cX1_stormAhead 2 (some .int), Cond.fieldLink RX1 22 "ThatchRoof" "storms" "[I", Cond.methodLink RX1 152 yX0_liveMonth, Cond.instanceMethod yX0_liveMonth, Cond.selects RX0 yX0_liveMonth yX0_liveMonth, Cond.initialized RX0, Cond.code yX0_liveMonth cX0_liveMonth 5 (some .int), Cond.fieldLink RX0 24 "ThatchRoof$Roof" "width" "I", Cond.methodLink RX0 92 yX0_liveMonthAt, Cond.instanceMethod yX0_liveMonthAt, Cond.selects RX0 yX0_liveMonthAt yX0_liveMonthAt, Cond.code yX0_liveMonthAt cX0_liveMonthAt 6 (some .int), Cond.fieldLink RX0 85 "ThatchRoof$Roof" "worn" "I", Cond.fieldLink RX0 82 "ThatchRoof$Roof" "torn" "I", Cond.methodLink RX0 100 yX0_rainOn, Cond.instanceMethod yX0_rainOn, Cond.selects RX0 yX0_rainOn yX0_rainOn, Cond.code yX0_rainOn cX0_rainOn 6 (some .int), Cond.fieldLink RX0 28 "ThatchRoof$Roof" "courses" "I"]
def wsL_pass_r3 : List Cond := [Cond.fieldLink RX0 15 "ThatchRoof$Roof" "thicknesses" "[I", Cond.methodLink RX0 110 Lib.Math.max.name, Cond.static Lib.Math.max.name, Cond.initialized "java/lang/Math", Cond.code Lib.Math.max.name Lib.Math.max.code 2 (some .int), Cond.methodLink RX0 51 yX0_hasYealm, Cond.instanceMethod yX0_hasYealm, Cond.selects RX0 yX0_hasYealm yX0_hasYealm, Cond.code yX0_hasYealm cX0_hasYealm 3 (some .boolean), Cond.methodLink RX0 47 yX0_thicknessAt, Cond.instanceMethod yX0_thicknessAt, Cond.selects RX0 yX0_thicknessAt yX0_thicknessAt, Cond.code yX0_thicknessAt cX0_thicknessAt 3 (some .int), Cond.methodLink RX0 61 yX0_numberOf, Cond.instanceMethod yX0_numberOf, Cond.selects RX0 yX0_numberOf yX0_numberOf, Cond.code yX0_numberOf cX0_numberOf 3 (some .int), Cond.methodLink RX0 113 yX0_wearBy, Cond.instanceMethod yX0_wearBy, Cond.selects RX0 yX0_wearBy yX0_wearBy, Cond.code yX0_wearBy cX0_wearBy 6 (some .int), Cond.fieldLink RX0 21 "ThatchRoof$Roof" "mosses" "[I", Cond.fieldLink RX0 31 "ThatchRoof$Roof" "slope" "I", Cond.fieldLink RX0 9 "ThatchRoof$Roof" "kinds" "[I"]
def wsL_pass_r4 : List Cond := [Cond.methodLink RX0 69 yX0_isBare, Cond.instanceMethod yX0_isBare, Cond.selects RX0 yX0_isBare yX0_isBare, Cond.code yX0_isBare cX0_isBare 3 (some .boolean), Cond.methodLink RX0 55 yX0_isHighest, Cond.instanceMethod yX0_isHighest, Cond.selects RX0 yX0_isHighest yX0_isHighest, Cond.code yX0_isHighest cX0_isHighest 2 (some .boolean), Cond.methodLink RX0 103 yX0_growMoss, Cond.instanceMethod yX0_growMoss, Cond.selects RX0 yX0_growMoss yX0_growMoss, Cond.code yX0_growMoss cX0_growMoss 5 none, Cond.methodLink RX0 64 Lib.Math.min.name, Cond.static Lib.Math.min.name, Cond.code Lib.Math.min.name Lib.Math.min.code 2 (some .int), Cond.methodLink RX0 107 yX0_stormOn, Cond.instanceMethod yX0_stormOn, Cond.selects RX0 yX0_stormOn yX0_stormOn, Cond.code yX0_stormOn cX0_stormOn 5 (some .int), Cond.methodLink RX0 116 yX0_wouldTear, Cond.instanceMethod yX0_wouldTear, Cond.selects RX0 yX0_wouldTear yX0_wouldTear, Cond.code yX0_wouldTear cX0_wouldTear 7 (some .boolean), Cond.fieldLink RX0 18 "ThatchRoof$Roof" "spars" "[I"]
def wsL_pass_r5 : List Cond := [Cond.fieldLink RX0 34 "ThatchRoof$Roof" "ridge" "I", Cond.methodLink RX0 120 yX0_isEnd, Cond.instanceMethod yX0_isEnd, Cond.selects RX0 yX0_isEnd yX0_isEnd, Cond.code yX0_isEnd cX0_isEnd 2 (some .boolean), Cond.methodLink RX0 96 yX0_wearRidge, Cond.instanceMethod yX0_wearRidge, Cond.selects RX0 yX0_wearRidge yX0_wearRidge, Cond.code yX0_wearRidge cX0_wearRidge 2 none]
def wsL_pass : List Cond := .codeWith yL_pass cL_pass 4 (some .int) [(0, 9, 12, 13)] :: ((wsL_pass_r1 ++ (wsL_pass_r2 ++ (wsL_pass_r3 ++ (wsL_pass_r4 ++ wsL_pass_r5)))) ++ wsX10 ++ wsX00 ++ (vx_atS RX1 40 "java/lang/IllegalArgumentException" ["java/lang/RuntimeException", "java/lang/Exception"]).filter goodWord)
def wsL_tears_r1 : List Cond := [Cond.classLink RL 21 "java/lang/IndexOutOfBoundsException", Cond.classLink RL 13 "java/lang/IllegalArgumentException", Cond.methodLink RL 54 yX1_tears, Cond.instanceMethod yX1_tears, Cond.selects RX1 yX1_tears yX1_tears, Cond.initialized RX1, Cond.code yX1_tears cX1_tears 4 (some .int), Cond.classLink RX1 56 "java/lang/IndexOutOfBoundsException", Cond.initialized "java/lang/IndexOutOfBoundsException", Cond.classLink RX1 36 "java/lang/IllegalArgumentException", Cond.initialized "java/lang/IllegalArgumentException", Cond.methodLink RX1 69 yX1_roofAt, Cond.instanceMethod yX1_roofAt, Cond.selects RX1 yX1_roofAt yX1_roofAt, Cond.code yX1_roofAt cX1_roofAt 2 (some (.object "ThatchRoof$Roof")), Cond.fieldLink RX1 11 "ThatchRoof" "roofs" "[LThatchRoof$Roof;", Cond.methodLink RX1 32 yX1_isWithin, Cond.static yX1_isWithin, Cond.code yX1_isWithin cX1_isWithin 3 (some .boolean), Cond.methodLink RX1 160 yX0_wouldTearInAll, Cond.instanceMethod yX0_wouldTearInAll, Cond.selects RX0 yX0_wouldTearInAll yX0_wouldTearInAll, Cond.initialized RX0, Cond.code yX0_wouldTearInAll cX0_wouldTearInAll 5 (some .int)]
def wsL_tears_r2 : List Cond := [Cond.fieldLink RX0 28 "ThatchRoof$Roof" "courses" "I", Cond.fieldLink RX0 24 "ThatchRoof$Roof" "width" "I", Cond.methodLink RX0 116 yX0_wouldTear, Cond.instanceMethod yX0_wouldTear, Cond.selects RX0 yX0_wouldTear yX0_wouldTear, Cond.code yX0_wouldTear cX0_wouldTear 7 (some .boolean), Cond.fieldLink RX0 18 "ThatchRoof$Roof" "spars" "[I", Cond.fieldLink RX0 15 "ThatchRoof$Roof" "thicknesses" "[I", Cond.fieldLink RX0 34 "ThatchRoof$Roof" "ridge" "I", Cond.methodLink RX0 51 yX0_hasYealm, Cond.instanceMethod yX0_hasYealm, Cond.selects RX0 yX0_hasYealm yX0_hasYealm, Cond.code yX0_hasYealm cX0_hasYealm 3 (some .boolean), Cond.methodLink RX0 47 yX0_thicknessAt, Cond.instanceMethod yX0_thicknessAt, Cond.selects RX0 yX0_thicknessAt yX0_thicknessAt, Cond.code yX0_thicknessAt cX0_thicknessAt 3 (some .int), Cond.methodLink RX0 61 yX0_numberOf, Cond.instanceMethod yX0_numberOf, Cond.selects RX0 yX0_numberOf yX0_numberOf, Cond.code yX0_numberOf cX0_numberOf 3 (some .int), Cond.methodLink RX0 69 yX0_isBare, Cond.instanceMethod yX0_isBare, Cond.selects RX0 yX0_isBare yX0_isBare]
def wsL_tears_r3 : List Cond := [Cond.code yX0_isBare cX0_isBare 3 (some .boolean), Cond.methodLink RX0 55 yX0_isHighest, Cond.instanceMethod yX0_isHighest, Cond.selects RX0 yX0_isHighest yX0_isHighest, Cond.code yX0_isHighest cX0_isHighest 2 (some .boolean), Cond.methodLink RX0 120 yX0_isEnd, Cond.instanceMethod yX0_isEnd, Cond.selects RX0 yX0_isEnd yX0_isEnd, Cond.code yX0_isEnd cX0_isEnd 2 (some .boolean)]
def wsL_tears : List Cond := .codeWith yL_tears cL_tears 5 (some .int) [(0, 10, 13, 21), (0, 10, 17, 13)] :: ((wsL_tears_r1 ++ (wsL_tears_r2 ++ wsL_tears_r3)) ++ wsX10 ++ wsX00 ++ (vx_atS RX1 60 "java/lang/IndexOutOfBoundsException" ["java/lang/RuntimeException", "java/lang/Exception"]).filter goodWord ++ (vx_atS RX1 40 "java/lang/IllegalArgumentException" ["java/lang/RuntimeException", "java/lang/Exception"]).filter goodWord)
def wsL_holds_r1 : List Cond := [Cond.classLink RL 21 "java/lang/IndexOutOfBoundsException", Cond.methodLink RL 57 yX1_holds, Cond.instanceMethod yX1_holds, Cond.selects RX1 yX1_holds yX1_holds, Cond.initialized RX1, Cond.code yX1_holds cX1_holds 5 (some .int), Cond.classLink RX1 56 "java/lang/IndexOutOfBoundsException", Cond.initialized "java/lang/IndexOutOfBoundsException", Cond.fieldLink RX1 28 "ThatchRoof" "trial" "LThatchRoof$Roof;", Cond.methodLink RX1 69 yX1_roofAt, Cond.instanceMethod yX1_roofAt, Cond.selects RX1 yX1_roofAt yX1_roofAt, Cond.code yX1_roofAt cX1_roofAt 2 (some (.object "ThatchRoof$Roof")), Cond.fieldLink RX1 11 "ThatchRoof" "roofs" "[LThatchRoof$Roof;", Cond.methodLink RX1 32 yX1_isWithin, Cond.static yX1_isWithin, Cond.code yX1_isWithin cX1_isWithin 3 (some .boolean), Cond.methodLink RX1 163 yX0_leaks, Cond.instanceMethod yX0_leaks, Cond.selects RX0 yX0_leaks yX0_leaks, Cond.initialized RX0, Cond.code yX0_leaks cX0_leaks 3 (some .int), Cond.fieldLink RX0 24 "ThatchRoof$Roof" "width" "I", Cond.fieldLink RX0 28 "ThatchRoof$Roof" "courses" "I"]
def wsL_holds_r2 : List Cond := [Cond.methodLink RX0 88 yX0_thicknessOver, Cond.instanceMethod yX0_thicknessOver, Cond.selects RX0 yX0_thicknessOver yX0_thicknessOver, Cond.code yX0_thicknessOver cX0_thicknessOver 4 (some .int), Cond.methodLink RX0 47 yX0_thicknessAt, Cond.instanceMethod yX0_thicknessAt, Cond.selects RX0 yX0_thicknessAt yX0_thicknessAt, Cond.code yX0_thicknessAt cX0_thicknessAt 3 (some .int), Cond.fieldLink RX0 15 "ThatchRoof$Roof" "thicknesses" "[I", Cond.methodLink RX0 51 yX0_hasYealm, Cond.instanceMethod yX0_hasYealm, Cond.selects RX0 yX0_hasYealm yX0_hasYealm, Cond.code yX0_hasYealm cX0_hasYealm 3 (some .boolean), Cond.methodLink RX1 166 yX0_becomeLike, Cond.instanceMethod yX0_becomeLike, Cond.selects RX0 yX0_becomeLike yX0_becomeLike, Cond.code yX0_becomeLike cX0_becomeLike 2 none, Cond.fieldLink RX0 31 "ThatchRoof$Roof" "slope" "I", Cond.fieldLink RX0 34 "ThatchRoof$Roof" "ridge" "I", Cond.fieldLink RX0 9 "ThatchRoof$Roof" "kinds" "[I", Cond.methodLink RX0 37 arraycopyName, Cond.native arraycopyName, Cond.static arraycopyName, Cond.initialized "java/lang/System"]
def wsL_holds_r3 : List Cond := [Cond.fieldLink RX0 18 "ThatchRoof$Roof" "spars" "[I", Cond.fieldLink RX0 21 "ThatchRoof$Roof" "mosses" "[I", Cond.methodLink RX1 146 yX1_rainAhead, Cond.instanceMethod yX1_rainAhead, Cond.selects RX1 yX1_rainAhead yX1_rainAhead, Cond.code yX1_rainAhead cX1_rainAhead 2 (some .int), Cond.fieldLink RX1 19 "ThatchRoof" "rains" "[I", Cond.methodLink RX1 210 yX1_monthOfYear, Cond.instanceMethod yX1_monthOfYear, Cond.selects RX1 yX1_monthOfYear yX1_monthOfYear, Cond.code yX1_monthOfYear cX1_monthOfYear 2 (some .int), Cond.fieldLink RX1 155 "ThatchRoof" "month" "I", Cond.methodLink RX1 205 yJ9_floorMod_7cf53, Cond.static yJ9_floorMod_7cf53, Cond.initialized RJ9, Cond.code yJ9_floorMod_7cf53 cJ9_floorMod_7cf53 3 (some .int), Cond.methodLink RX1 149 yX1_stormAhead, Cond.instanceMethod yX1_stormAhead, Cond.selects RX1 yX1_stormAhead yX1_stormAhead, Cond.code yX1_stormAhead cX1_stormAhead 2 (some .int), Cond.fieldLink RX1 22 "ThatchRoof" "storms" "[I", Cond.methodLink RX1 152 yX0_liveMonth, Cond.instanceMethod yX0_liveMonth, Cond.selects RX0 yX0_liveMonth yX0_liveMonth]
def wsL_holds_r4 : List Cond := [Cond.code yX0_liveMonth cX0_liveMonth 5 (some .int), Cond.methodLink RX0 92 yX0_liveMonthAt, Cond.instanceMethod yX0_liveMonthAt, Cond.selects RX0 yX0_liveMonthAt yX0_liveMonthAt, Cond.code yX0_liveMonthAt cX0_liveMonthAt 6 (some .int), Cond.fieldLink RX0 85 "ThatchRoof$Roof" "worn" "I", Cond.fieldLink RX0 82 "ThatchRoof$Roof" "torn" "I", Cond.methodLink RX0 100 yX0_rainOn, Cond.instanceMethod yX0_rainOn, Cond.selects RX0 yX0_rainOn yX0_rainOn, Cond.code yX0_rainOn cX0_rainOn 6 (some .int), Cond.methodLink RX0 110 Lib.Math.max.name, Cond.static Lib.Math.max.name, Cond.initialized "java/lang/Math", Cond.code Lib.Math.max.name Lib.Math.max.code 2 (some .int), Cond.methodLink RX0 61 yX0_numberOf, Cond.instanceMethod yX0_numberOf, Cond.selects RX0 yX0_numberOf yX0_numberOf, Cond.code yX0_numberOf cX0_numberOf 3 (some .int), Cond.methodLink RX0 113 yX0_wearBy, Cond.instanceMethod yX0_wearBy, Cond.selects RX0 yX0_wearBy yX0_wearBy, Cond.code yX0_wearBy cX0_wearBy 6 (some .int), Cond.methodLink RX0 69 yX0_isBare]
def wsL_holds_r5 : List Cond := [Cond.instanceMethod yX0_isBare, Cond.selects RX0 yX0_isBare yX0_isBare, Cond.code yX0_isBare cX0_isBare 3 (some .boolean), Cond.methodLink RX0 55 yX0_isHighest, Cond.instanceMethod yX0_isHighest, Cond.selects RX0 yX0_isHighest yX0_isHighest, Cond.code yX0_isHighest cX0_isHighest 2 (some .boolean), Cond.methodLink RX0 103 yX0_growMoss, Cond.instanceMethod yX0_growMoss, Cond.selects RX0 yX0_growMoss yX0_growMoss, Cond.code yX0_growMoss cX0_growMoss 5 none, Cond.methodLink RX0 64 Lib.Math.min.name, Cond.static Lib.Math.min.name, Cond.code Lib.Math.min.name Lib.Math.min.code 2 (some .int), Cond.methodLink RX0 107 yX0_stormOn, Cond.instanceMethod yX0_stormOn, Cond.selects RX0 yX0_stormOn yX0_stormOn, Cond.code yX0_stormOn cX0_stormOn 5 (some .int), Cond.methodLink RX0 116 yX0_wouldTear, Cond.instanceMethod yX0_wouldTear, Cond.selects RX0 yX0_wouldTear yX0_wouldTear, Cond.code yX0_wouldTear cX0_wouldTear 7 (some .boolean), Cond.methodLink RX0 120 yX0_isEnd, Cond.instanceMethod yX0_isEnd]
def wsL_holds_r6 : List Cond := [Cond.selects RX0 yX0_isEnd yX0_isEnd, Cond.code yX0_isEnd cX0_isEnd 2 (some .boolean), Cond.methodLink RX0 96 yX0_wearRidge, Cond.instanceMethod yX0_wearRidge, Cond.selects RX0 yX0_wearRidge yX0_wearRidge, Cond.code yX0_wearRidge cX0_wearRidge 2 none]
def wsL_holds : List Cond := .codeWith yL_holds cL_holds 4 (some .int) [(0, 9, 12, 21)] :: ((wsL_holds_r1 ++ (wsL_holds_r2 ++ (wsL_holds_r3 ++ (wsL_holds_r4 ++ (wsL_holds_r5 ++ wsL_holds_r6))))) ++ wsX10 ++ wsX00 ++ (vx_atS RX1 60 "java/lang/IndexOutOfBoundsException" ["java/lang/RuntimeException", "java/lang/Exception"]).filter goodWord)
def wsL_foresee_r1 : List Cond := [Cond.classLink RL 21 "java/lang/IndexOutOfBoundsException", Cond.classLink RL 13 "java/lang/IllegalArgumentException", Cond.methodLink RL 60 yX1_foresee, Cond.instanceMethod yX1_foresee, Cond.selects RX1 yX1_foresee yX1_foresee, Cond.initialized RX1, Cond.code yX1_foresee cX1_foresee 6 (some .int), Cond.classLink RX1 56 "java/lang/IndexOutOfBoundsException", Cond.initialized "java/lang/IndexOutOfBoundsException", Cond.classLink RX1 36 "java/lang/IllegalArgumentException", Cond.initialized "java/lang/IllegalArgumentException", Cond.fieldLink RX1 28 "ThatchRoof" "trial" "LThatchRoof$Roof;", Cond.methodLink RX1 69 yX1_roofAt, Cond.instanceMethod yX1_roofAt, Cond.selects RX1 yX1_roofAt yX1_roofAt, Cond.code yX1_roofAt cX1_roofAt 2 (some (.object "ThatchRoof$Roof")), Cond.fieldLink RX1 11 "ThatchRoof" "roofs" "[LThatchRoof$Roof;", Cond.methodLink RX1 32 yX1_isWithin, Cond.static yX1_isWithin, Cond.code yX1_isWithin cX1_isWithin 3 (some .boolean), Cond.methodLink RX1 166 yX0_becomeLike, Cond.instanceMethod yX0_becomeLike, Cond.selects RX0 yX0_becomeLike yX0_becomeLike, Cond.initialized RX0]
def wsL_foresee_r2 : List Cond := [Cond.code yX0_becomeLike cX0_becomeLike 2 none, Cond.fieldLink RX0 24 "ThatchRoof$Roof" "width" "I", Cond.fieldLink RX0 28 "ThatchRoof$Roof" "courses" "I", Cond.fieldLink RX0 31 "ThatchRoof$Roof" "slope" "I", Cond.fieldLink RX0 34 "ThatchRoof$Roof" "ridge" "I", Cond.fieldLink RX0 9 "ThatchRoof$Roof" "kinds" "[I", Cond.methodLink RX0 37 arraycopyName, Cond.native arraycopyName, Cond.static arraycopyName, Cond.initialized "java/lang/System", Cond.fieldLink RX0 15 "ThatchRoof$Roof" "thicknesses" "[I", Cond.fieldLink RX0 18 "ThatchRoof$Roof" "spars" "[I", Cond.fieldLink RX0 21 "ThatchRoof$Roof" "mosses" "[I", Cond.methodLink RX1 146 yX1_rainAhead, Cond.instanceMethod yX1_rainAhead, Cond.selects RX1 yX1_rainAhead yX1_rainAhead, Cond.code yX1_rainAhead cX1_rainAhead 2 (some .int), Cond.fieldLink RX1 19 "ThatchRoof" "rains" "[I", Cond.methodLink RX1 210 yX1_monthOfYear, Cond.instanceMethod yX1_monthOfYear, Cond.selects RX1 yX1_monthOfYear yX1_monthOfYear, Cond.code yX1_monthOfYear cX1_monthOfYear 2 (some .int), Cond.fieldLink RX1 155 "ThatchRoof" "month" "I", Cond.methodLink RX1 205 yJ9_floorMod_7cf53]
def wsL_foresee_r3 : List Cond := [Cond.static yJ9_floorMod_7cf53, Cond.initialized RJ9, Cond.code yJ9_floorMod_7cf53 cJ9_floorMod_7cf53 3 (some .int), Cond.methodLink RX1 149 yX1_stormAhead, Cond.instanceMethod yX1_stormAhead, Cond.selects RX1 yX1_stormAhead yX1_stormAhead, Cond.code yX1_stormAhead cX1_stormAhead 2 (some .int), Cond.fieldLink RX1 22 "ThatchRoof" "storms" "[I", Cond.methodLink RX1 152 yX0_liveMonth, Cond.instanceMethod yX0_liveMonth, Cond.selects RX0 yX0_liveMonth yX0_liveMonth, Cond.code yX0_liveMonth cX0_liveMonth 5 (some .int), Cond.methodLink RX0 92 yX0_liveMonthAt, Cond.instanceMethod yX0_liveMonthAt, Cond.selects RX0 yX0_liveMonthAt yX0_liveMonthAt, Cond.code yX0_liveMonthAt cX0_liveMonthAt 6 (some .int), Cond.fieldLink RX0 85 "ThatchRoof$Roof" "worn" "I", Cond.fieldLink RX0 82 "ThatchRoof$Roof" "torn" "I", Cond.methodLink RX0 100 yX0_rainOn, Cond.instanceMethod yX0_rainOn, Cond.selects RX0 yX0_rainOn yX0_rainOn, Cond.code yX0_rainOn cX0_rainOn 6 (some .int), Cond.methodLink RX0 110 Lib.Math.max.name, Cond.static Lib.Math.max.name]
def wsL_foresee_r4 : List Cond := [Cond.initialized "java/lang/Math", Cond.code Lib.Math.max.name Lib.Math.max.code 2 (some .int), Cond.methodLink RX0 51 yX0_hasYealm, Cond.instanceMethod yX0_hasYealm, Cond.selects RX0 yX0_hasYealm yX0_hasYealm, Cond.code yX0_hasYealm cX0_hasYealm 3 (some .boolean), Cond.methodLink RX0 47 yX0_thicknessAt, Cond.instanceMethod yX0_thicknessAt, Cond.selects RX0 yX0_thicknessAt yX0_thicknessAt, Cond.code yX0_thicknessAt cX0_thicknessAt 3 (some .int), Cond.methodLink RX0 61 yX0_numberOf, Cond.instanceMethod yX0_numberOf, Cond.selects RX0 yX0_numberOf yX0_numberOf, Cond.code yX0_numberOf cX0_numberOf 3 (some .int), Cond.methodLink RX0 113 yX0_wearBy, Cond.instanceMethod yX0_wearBy, Cond.selects RX0 yX0_wearBy yX0_wearBy, Cond.code yX0_wearBy cX0_wearBy 6 (some .int), Cond.methodLink RX0 69 yX0_isBare, Cond.instanceMethod yX0_isBare, Cond.selects RX0 yX0_isBare yX0_isBare, Cond.code yX0_isBare cX0_isBare 3 (some .boolean), Cond.methodLink RX0 55 yX0_isHighest, Cond.instanceMethod yX0_isHighest]
def wsL_foresee_r5 : List Cond := [Cond.selects RX0 yX0_isHighest yX0_isHighest, Cond.code yX0_isHighest cX0_isHighest 2 (some .boolean), Cond.methodLink RX0 103 yX0_growMoss, Cond.instanceMethod yX0_growMoss, Cond.selects RX0 yX0_growMoss yX0_growMoss, Cond.code yX0_growMoss cX0_growMoss 5 none, Cond.methodLink RX0 64 Lib.Math.min.name, Cond.static Lib.Math.min.name, Cond.code Lib.Math.min.name Lib.Math.min.code 2 (some .int), Cond.methodLink RX0 107 yX0_stormOn, Cond.instanceMethod yX0_stormOn, Cond.selects RX0 yX0_stormOn yX0_stormOn, Cond.code yX0_stormOn cX0_stormOn 5 (some .int), Cond.methodLink RX0 116 yX0_wouldTear, Cond.instanceMethod yX0_wouldTear, Cond.selects RX0 yX0_wouldTear yX0_wouldTear, Cond.code yX0_wouldTear cX0_wouldTear 7 (some .boolean), Cond.methodLink RX0 120 yX0_isEnd, Cond.instanceMethod yX0_isEnd, Cond.selects RX0 yX0_isEnd yX0_isEnd, Cond.code yX0_isEnd cX0_isEnd 2 (some .boolean), Cond.methodLink RX0 96 yX0_wearRidge, Cond.instanceMethod yX0_wearRidge, Cond.selects RX0 yX0_wearRidge yX0_wearRidge]
def wsL_foresee_r6 : List Cond := [Cond.code yX0_wearRidge cX0_wearRidge 2 none, Cond.methodLink RX1 174 yX0_yealms, Cond.instanceMethod yX0_yealms, Cond.selects RX0 yX0_yealms yX0_yealms, Cond.code yX0_yealms cX0_yealms 4 (some .int), Cond.methodLink RX1 163 yX0_leaks, Cond.instanceMethod yX0_leaks, Cond.selects RX0 yX0_leaks yX0_leaks, Cond.code yX0_leaks cX0_leaks 3 (some .int), Cond.methodLink RX0 88 yX0_thicknessOver, Cond.instanceMethod yX0_thicknessOver, Cond.selects RX0 yX0_thicknessOver yX0_thicknessOver, Cond.code yX0_thicknessOver cX0_thicknessOver 4 (some .int), Cond.methodLink RX1 177 yX0_ridgeLeft, Cond.instanceMethod yX0_ridgeLeft, Cond.selects RX0 yX0_ridgeLeft yX0_ridgeLeft, Cond.code yX0_ridgeLeft cX0_ridgeLeft 1 (some .int)]
def wsL_foresee : List Cond := .codeWith yL_foresee cL_foresee 6 (some .int) [(0, 12, 15, 21), (0, 12, 19, 13)] :: ((wsL_foresee_r1 ++ (wsL_foresee_r2 ++ (wsL_foresee_r3 ++ (wsL_foresee_r4 ++ (wsL_foresee_r5 ++ wsL_foresee_r6))))) ++ wsX10 ++ wsX00 ++ (vx_atS RX1 60 "java/lang/IndexOutOfBoundsException" ["java/lang/RuntimeException", "java/lang/Exception"]).filter goodWord ++ (vx_atS RX1 40 "java/lang/IllegalArgumentException" ["java/lang/RuntimeException", "java/lang/Exception"]).filter goodWord)
def wsL_advise_r1 : List Cond := [Cond.classLink RL 21 "java/lang/IndexOutOfBoundsException", Cond.classLink RL 13 "java/lang/IllegalArgumentException", Cond.methodLink RL 63 yX1_advise, Cond.instanceMethod yX1_advise, Cond.selects RX1 yX1_advise yX1_advise, Cond.initialized RX1, Cond.code yX1_advise cX1_advise 11 (some .int), Cond.classLink RX1 56 "java/lang/IndexOutOfBoundsException", Cond.initialized "java/lang/IndexOutOfBoundsException", Cond.classLink RX1 36 "java/lang/IllegalArgumentException", Cond.initialized "java/lang/IllegalArgumentException", Cond.methodLink RX1 69 yX1_roofAt, Cond.instanceMethod yX1_roofAt, Cond.selects RX1 yX1_roofAt yX1_roofAt, Cond.code yX1_roofAt cX1_roofAt 2 (some (.object "ThatchRoof$Roof")), Cond.fieldLink RX1 11 "ThatchRoof" "roofs" "[LThatchRoof$Roof;", Cond.methodLink RX1 32 yX1_isWithin, Cond.static yX1_isWithin, Cond.code yX1_isWithin cX1_isWithin 3 (some .boolean), Cond.methodLink RX1 102 yX0_wide, Cond.instanceMethod yX0_wide, Cond.selects RX0 yX0_wide yX0_wide, Cond.initialized RX0, Cond.code yX0_wide cX0_wide 1 (some .int)]
def wsL_advise_r2 : List Cond := [Cond.fieldLink RX0 24 "ThatchRoof$Roof" "width" "I", Cond.methodLink RX1 182 yX1_lostAt, Cond.instanceMethod yX1_lostAt, Cond.selects RX1 yX1_lostAt yX1_lostAt, Cond.code yX1_lostAt cX1_lostAt 7 (some .int), Cond.fieldLink RX1 28 "ThatchRoof" "trial" "LThatchRoof$Roof;", Cond.methodLink RX1 166 yX0_becomeLike, Cond.instanceMethod yX0_becomeLike, Cond.selects RX0 yX0_becomeLike yX0_becomeLike, Cond.code yX0_becomeLike cX0_becomeLike 2 none, Cond.fieldLink RX0 28 "ThatchRoof$Roof" "courses" "I", Cond.fieldLink RX0 31 "ThatchRoof$Roof" "slope" "I", Cond.fieldLink RX0 34 "ThatchRoof$Roof" "ridge" "I", Cond.fieldLink RX0 9 "ThatchRoof$Roof" "kinds" "[I", Cond.methodLink RX0 37 arraycopyName, Cond.native arraycopyName, Cond.static arraycopyName, Cond.initialized "java/lang/System", Cond.fieldLink RX0 15 "ThatchRoof$Roof" "thicknesses" "[I", Cond.fieldLink RX0 18 "ThatchRoof$Roof" "spars" "[I", Cond.fieldLink RX0 21 "ThatchRoof$Roof" "mosses" "[I", Cond.methodLink RX1 114 yX0_improve, Cond.instanceMethod yX0_improve, Cond.selects RX0 yX0_improve yX0_improve]
def wsL_advise_r3 : List Cond := [Cond.code yX0_improve cX0_improve 4 none, Cond.methodLink RX0 64 Lib.Math.min.name, Cond.static Lib.Math.min.name, Cond.initialized "java/lang/Math", Cond.code Lib.Math.min.name Lib.Math.min.code 2 (some .int), Cond.methodLink RX0 51 yX0_hasYealm, Cond.instanceMethod yX0_hasYealm, Cond.selects RX0 yX0_hasYealm yX0_hasYealm, Cond.code yX0_hasYealm cX0_hasYealm 3 (some .boolean), Cond.methodLink RX0 47 yX0_thicknessAt, Cond.instanceMethod yX0_thicknessAt, Cond.selects RX0 yX0_thicknessAt yX0_thicknessAt, Cond.code yX0_thicknessAt cX0_thicknessAt 3 (some .int), Cond.methodLink RX0 61 yX0_numberOf, Cond.instanceMethod yX0_numberOf, Cond.selects RX0 yX0_numberOf yX0_numberOf, Cond.code yX0_numberOf cX0_numberOf 3 (some .int), Cond.methodLink RX1 146 yX1_rainAhead, Cond.instanceMethod yX1_rainAhead, Cond.selects RX1 yX1_rainAhead yX1_rainAhead, Cond.code yX1_rainAhead cX1_rainAhead 2 (some .int), Cond.fieldLink RX1 19 "ThatchRoof" "rains" "[I", Cond.methodLink RX1 210 yX1_monthOfYear, Cond.instanceMethod yX1_monthOfYear]
def wsL_advise_r4 : List Cond := [Cond.selects RX1 yX1_monthOfYear yX1_monthOfYear, Cond.code yX1_monthOfYear cX1_monthOfYear 2 (some .int), Cond.fieldLink RX1 155 "ThatchRoof" "month" "I", Cond.methodLink RX1 205 yJ9_floorMod_7cf53, Cond.static yJ9_floorMod_7cf53, Cond.initialized RJ9, Cond.code yJ9_floorMod_7cf53 cJ9_floorMod_7cf53 3 (some .int), Cond.methodLink RX1 149 yX1_stormAhead, Cond.instanceMethod yX1_stormAhead, Cond.selects RX1 yX1_stormAhead yX1_stormAhead, Cond.code yX1_stormAhead cX1_stormAhead 2 (some .int), Cond.fieldLink RX1 22 "ThatchRoof" "storms" "[I", Cond.methodLink RX1 216 yX0_liveMonthAt, Cond.instanceMethod yX0_liveMonthAt, Cond.selects RX0 yX0_liveMonthAt yX0_liveMonthAt, Cond.code yX0_liveMonthAt cX0_liveMonthAt 6 (some .int), Cond.fieldLink RX0 85 "ThatchRoof$Roof" "worn" "I", Cond.fieldLink RX0 82 "ThatchRoof$Roof" "torn" "I", Cond.methodLink RX0 100 yX0_rainOn, Cond.instanceMethod yX0_rainOn, Cond.selects RX0 yX0_rainOn yX0_rainOn, Cond.code yX0_rainOn cX0_rainOn 6 (some .int), Cond.methodLink RX0 110 Lib.Math.max.name, Cond.static Lib.Math.max.name]
def wsL_advise_r5 : List Cond := [Cond.code Lib.Math.max.name Lib.Math.max.code 2 (some .int), Cond.methodLink RX0 113 yX0_wearBy, Cond.instanceMethod yX0_wearBy, Cond.selects RX0 yX0_wearBy yX0_wearBy, Cond.code yX0_wearBy cX0_wearBy 6 (some .int), Cond.methodLink RX0 69 yX0_isBare, Cond.instanceMethod yX0_isBare, Cond.selects RX0 yX0_isBare yX0_isBare, Cond.code yX0_isBare cX0_isBare 3 (some .boolean), Cond.methodLink RX0 55 yX0_isHighest, Cond.instanceMethod yX0_isHighest, Cond.selects RX0 yX0_isHighest yX0_isHighest, Cond.code yX0_isHighest cX0_isHighest 2 (some .boolean), Cond.methodLink RX0 103 yX0_growMoss, Cond.instanceMethod yX0_growMoss, Cond.selects RX0 yX0_growMoss yX0_growMoss, Cond.code yX0_growMoss cX0_growMoss 5 none, Cond.methodLink RX0 107 yX0_stormOn, Cond.instanceMethod yX0_stormOn, Cond.selects RX0 yX0_stormOn yX0_stormOn, Cond.code yX0_stormOn cX0_stormOn 5 (some .int), Cond.methodLink RX0 116 yX0_wouldTear, Cond.instanceMethod yX0_wouldTear, Cond.selects RX0 yX0_wouldTear yX0_wouldTear]
def wsL_advise_r6 : List Cond := [Cond.code yX0_wouldTear cX0_wouldTear 7 (some .boolean), Cond.methodLink RX0 120 yX0_isEnd, Cond.instanceMethod yX0_isEnd, Cond.selects RX0 yX0_isEnd yX0_isEnd, Cond.code yX0_isEnd cX0_isEnd 2 (some .boolean), Cond.methodLink RX1 219 yX0_wearRidge, Cond.instanceMethod yX0_wearRidge, Cond.selects RX0 yX0_wearRidge yX0_wearRidge, Cond.code yX0_wearRidge cX0_wearRidge 2 none, Cond.methodLink RX1 186 yX0_high, Cond.instanceMethod yX0_high, Cond.selects RX0 yX0_high yX0_high, Cond.code yX0_high cX0_high 1 (some .int), Cond.methodLink RX1 189 yX0_numberOf]
def wsL_advise : List Cond := .codeWith yL_advise cL_advise 5 (some .int) [(0, 10, 13, 21), (0, 10, 17, 13)] :: ((wsL_advise_r1 ++ (wsL_advise_r2 ++ (wsL_advise_r3 ++ (wsL_advise_r4 ++ (wsL_advise_r5 ++ wsL_advise_r6))))) ++ wsX10 ++ wsX00 ++ (vx_atS RX1 60 "java/lang/IndexOutOfBoundsException" ["java/lang/RuntimeException", "java/lang/Exception"]).filter goodWord ++ (vx_atS RX1 40 "java/lang/IllegalArgumentException" ["java/lang/RuntimeException", "java/lang/Exception"]).filter goodWord)
def wsL_needs_r1 : List Cond := [Cond.classLink RL 21 "java/lang/IndexOutOfBoundsException", Cond.classLink RL 13 "java/lang/IllegalArgumentException", Cond.methodLink RL 66 yX1_needs, Cond.instanceMethod yX1_needs, Cond.selects RX1 yX1_needs yX1_needs, Cond.initialized RX1, Cond.code yX1_needs cX1_needs 5 (some .int), Cond.classLink RX1 56 "java/lang/IndexOutOfBoundsException", Cond.initialized "java/lang/IndexOutOfBoundsException", Cond.classLink RX1 36 "java/lang/IllegalArgumentException", Cond.initialized "java/lang/IllegalArgumentException", Cond.methodLink RX1 69 yX1_roofAt, Cond.instanceMethod yX1_roofAt, Cond.selects RX1 yX1_roofAt yX1_roofAt, Cond.code yX1_roofAt cX1_roofAt 2 (some (.object "ThatchRoof$Roof")), Cond.fieldLink RX1 11 "ThatchRoof" "roofs" "[LThatchRoof$Roof;", Cond.methodLink RX1 32 yX1_isWithin, Cond.static yX1_isWithin, Cond.code yX1_isWithin cX1_isWithin 3 (some .boolean), Cond.methodLink RX1 102 yX0_wide, Cond.instanceMethod yX0_wide, Cond.selects RX0 yX0_wide yX0_wide, Cond.initialized RX0, Cond.code yX0_wide cX0_wide 1 (some .int)]
def wsL_needs_r2 : List Cond := [Cond.fieldLink RX0 24 "ThatchRoof$Roof" "width" "I", Cond.methodLink RX1 186 yX0_high, Cond.instanceMethod yX0_high, Cond.selects RX0 yX0_high yX0_high, Cond.code yX0_high cX0_high 1 (some .int), Cond.fieldLink RX0 28 "ThatchRoof$Roof" "courses" "I", Cond.methodLink RX1 174 yX0_yealms, Cond.instanceMethod yX0_yealms, Cond.selects RX0 yX0_yealms yX0_yealms, Cond.code yX0_yealms cX0_yealms 4 (some .int), Cond.methodLink RX0 51 yX0_hasYealm, Cond.instanceMethod yX0_hasYealm, Cond.selects RX0 yX0_hasYealm yX0_hasYealm, Cond.code yX0_hasYealm cX0_hasYealm 3 (some .boolean), Cond.methodLink RX0 47 yX0_thicknessAt, Cond.instanceMethod yX0_thicknessAt, Cond.selects RX0 yX0_thicknessAt yX0_thicknessAt, Cond.code yX0_thicknessAt cX0_thicknessAt 3 (some .int), Cond.fieldLink RX0 15 "ThatchRoof$Roof" "thicknesses" "[I", Cond.methodLink RX1 87 yX1_bundlesFor, Cond.static yX1_bundlesFor, Cond.code yX1_bundlesFor cX1_bundlesFor 1 (some .int)]
def wsL_needs : List Cond := .codeWith yL_needs cL_needs 5 (some .int) [(0, 10, 13, 21), (0, 10, 17, 13)] :: ((wsL_needs_r1 ++ wsL_needs_r2) ++ wsX10 ++ wsX00 ++ (vx_atS RX1 60 "java/lang/IndexOutOfBoundsException" ["java/lang/RuntimeException", "java/lang/Exception"]).filter goodWord ++ (vx_atS RX1 40 "java/lang/IllegalArgumentException" ["java/lang/RuntimeException", "java/lang/Exception"]).filter goodWord)
def wsL_law0_r1 : List Cond := [Cond.classLink RL 8 RX1, Cond.instantiable RX1 7, Cond.initialized RX1, Cond.classLink RL 70 RX3, Cond.instantiable RX3 10, Cond.initialized RX3, Cond.arrayClass .long, Cond.methodLink RL 69 yX1_init, Cond.instanceMethod yX1_init, Cond.code yX1_init cX1_init 2 none, Cond.methodLink RX1 3 objectInit, Cond.instanceMethod objectInit, Cond.code objectInit ⟨#[0xb1]⟩ 1 none, Cond.classLink RX1 9 RX0, Cond.fieldLink RX1 11 "ThatchRoof" "roofs" "[LThatchRoof$Roof;", Cond.arrayClass .int, Cond.fieldLink RX1 15 "ThatchRoof" "barn" "[I", Cond.fieldLink RX1 19 "ThatchRoof" "rains" "[I", Cond.fieldLink RX1 22 "ThatchRoof" "storms" "[I", Cond.instantiable RX0 10, Cond.initialized RX0, Cond.fieldLink RX1 28 "ThatchRoof" "trial" "LThatchRoof$Roof;", Cond.methodLink RX1 25 yX0_init, Cond.instanceMethod yX0_init]
def wsL_law0_r2 : List Cond := [Cond.code yX0_init cX0_init 4 none, Cond.methodLink RX0 3 objectInit, Cond.fieldLink RX0 9 "ThatchRoof$Roof" "kinds" "[I", Cond.fieldLink RX0 15 "ThatchRoof$Roof" "thicknesses" "[I", Cond.fieldLink RX0 18 "ThatchRoof$Roof" "spars" "[I", Cond.fieldLink RX0 21 "ThatchRoof$Roof" "mosses" "[I", Cond.fieldLink RX0 24 "ThatchRoof$Roof" "width" "I", Cond.fieldLink RX0 28 "ThatchRoof$Roof" "courses" "I", Cond.fieldLink RX0 31 "ThatchRoof$Roof" "slope" "I", Cond.fieldLink RX0 34 "ThatchRoof$Roof" "ridge" "I", Cond.methodLink RL 72 yX3_init, Cond.instanceMethod yX3_init, Cond.code yX3_init cX3_init 1 none, Cond.methodLink RX3 1 objectInit, Cond.fieldLink RX3 9 "ThatchRoofModel" "width" "[I", Cond.fieldLink RX3 13 "ThatchRoofModel" "courses" "[I", Cond.fieldLink RX3 16 "ThatchRoofModel" "slope" "[I", Cond.fieldLink RX3 19 "ThatchRoofModel" "rain" "[I", Cond.fieldLink RX3 22 "ThatchRoofModel" "storm" "[I", Cond.fieldLink RX3 25 "ThatchRoofModel" "barn" "[I", Cond.classLink RX3 28 RX2, Cond.instantiable RX2 10, Cond.initialized RX2, Cond.fieldLink RX3 33 "ThatchRoofModel" "s" "LThatchRoofModel$State;"]
def wsL_law0_r3 : List Cond := [Cond.fieldLink RX3 37 "ThatchRoofModel" "ahead" "LThatchRoofModel$State;", Cond.methodLink RX3 30 yX2_init, Cond.instanceMethod yX2_init, Cond.code yX2_init cX2_init 3 none, Cond.fieldLink RX2 3 "ThatchRoofModel$State" "this$0" "LThatchRoofModel;", Cond.methodLink RX2 9 objectInit, Cond.fieldLink RX2 15 "ThatchRoofModel$State" "ridge" "[I", Cond.fieldLink RX2 19 "ThatchRoofModel$State" "torn" "[I", Cond.fieldLink RX2 22 "ThatchRoofModel$State" "worn" "[I", Cond.fieldLink RX2 25 "ThatchRoofModel$State" "kind" "[I", Cond.fieldLink RX2 28 "ThatchRoofModel$State" "thick" "[I", Cond.fieldLink RX2 31 "ThatchRoofModel$State" "spars" "[I", Cond.fieldLink RX2 34 "ThatchRoofModel$State" "moss" "[I", Cond.arrayClass .boolean, Cond.fieldLink RX2 37 "ThatchRoofModel$State" "isGone" "[Z", Cond.methodLink RL 73 yL_build, Cond.static yL_build, Cond.initialized RL, Cond.codeWith yL_build cL_build 6 (some .int) [(0, 12, 15, 13), (0, 12, 19, 15)], Cond.classLink RL 13 "java/lang/IllegalArgumentException", Cond.classLink RL 15 "java/lang/IllegalStateException", Cond.methodLink RL 7 yX1_build, Cond.instanceMethod yX1_build, Cond.selects RX1 yX1_build yX1_build]
def wsL_law0_r4 : List Cond := [Cond.code yX1_build cX1_build 5 (some .int), Cond.classLink RX1 36 "java/lang/IllegalArgumentException", Cond.initialized "java/lang/IllegalArgumentException", Cond.classLink RX1 47 "java/lang/IllegalStateException", Cond.initialized "java/lang/IllegalStateException", Cond.fieldLink RX1 43 "ThatchRoof" "built" "I", Cond.methodLink RX1 32 yX1_isWithin, Cond.static yX1_isWithin, Cond.code yX1_isWithin cX1_isWithin 3 (some .boolean), Cond.methodLink RL 78 yX3_build, Cond.instanceMethod yX3_build, Cond.selects RX3 yX3_build yX3_build, Cond.code yX3_build cX3_build 4 (some .int), Cond.fieldLink RX3 40 "ThatchRoofModel" "thrown" "I", Cond.fieldLink RX3 44 "ThatchRoofModel" "roofs" "I", Cond.methodLink RX3 47 yX3_isIn, Cond.static yX3_isIn, Cond.code yX3_isIn cX3_isIn 3 (some .boolean), Cond.methodLink RX3 59 yX3_no, Cond.instanceMethod yX3_no, Cond.selects RX3 yX3_no yX3_no, Cond.code yX3_no cX3_no 2 (some .int), Cond.methodLink RL 79 yX3_thrown, Cond.instanceMethod yX3_thrown]
def wsL_law0_r5 : List Cond := [Cond.selects RX3 yX3_thrown yX3_thrown, Cond.code yX3_thrown cX3_thrown 1 (some .int), Cond.methodLink RL 83 yL_bring, Cond.static yL_bring, Cond.codeWith yL_bring cL_bring 5 (some .int) [(0, 10, 13, 21), (0, 10, 17, 13), (0, 10, 21, 15)], Cond.classLink RL 21 "java/lang/IndexOutOfBoundsException", Cond.methodLink RL 17 yX1_bring, Cond.instanceMethod yX1_bring, Cond.selects RX1 yX1_bring yX1_bring, Cond.code yX1_bring cX1_bring 3 (some .int), Cond.classLink RX1 56 "java/lang/IndexOutOfBoundsException", Cond.initialized "java/lang/IndexOutOfBoundsException", Cond.methodLink RX1 52 yX1_isKind, Cond.static yX1_isKind, Cond.code yX1_isKind cX1_isKind 1 (some .boolean), Cond.methodLink RL 86 yX3_bring, Cond.instanceMethod yX3_bring, Cond.selects RX3 yX3_bring yX3_bring, Cond.code yX3_bring cX3_bring 3 (some .int), Cond.methodLink RL 87 yL_setWeather, Cond.static yL_setWeather, Cond.codeWith yL_setWeather cL_setWeather 6 (some .int) [(0, 12, 15, 21), (0, 12, 19, 13)], Cond.methodLink RL 23 yX1_setWeather, Cond.instanceMethod yX1_setWeather]
def wsL_law0_r6 : List Cond := [Cond.selects RX1 yX1_setWeather yX1_setWeather, Cond.code yX1_setWeather cX1_setWeather 5 (some .int), Cond.methodLink RL 89 yX3_setWeather, Cond.instanceMethod yX3_setWeather, Cond.selects RX3 yX3_setWeather yX3_setWeather, Cond.code yX3_setWeather cX3_setWeather 5 (some .int), Cond.methodLink RL 90 yL_lay, Cond.static yL_lay, Cond.codeWith yL_lay cL_lay 9 (some .int) [(0, 18, 21, 21), (0, 18, 25, 13), (0, 18, 29, 15)], Cond.methodLink RL 26 yX1_lay, Cond.instanceMethod yX1_lay, Cond.selects RX1 yX1_lay yX1_lay, Cond.code yX1_lay cX1_lay 8 (some .int), Cond.methodLink RX1 69 yX1_roofAt, Cond.instanceMethod yX1_roofAt, Cond.selects RX1 yX1_roofAt yX1_roofAt, Cond.code yX1_roofAt cX1_roofAt 2 (some (.object "ThatchRoof$Roof")), Cond.methodLink RX1 73 yX0_hasPlace, Cond.instanceMethod yX0_hasPlace, Cond.selects RX0 yX0_hasPlace yX0_hasPlace, Cond.code yX0_hasPlace cX0_hasPlace 3 (some .boolean), Cond.methodLink RX0 43 yX0_hasCourse, Cond.instanceMethod yX0_hasCourse, Cond.selects RX0 yX0_hasCourse yX0_hasCourse]
def wsL_law0_r7 : List Cond := [Cond.code yX0_hasCourse cX0_hasCourse 2 (some .boolean), Cond.methodLink RX1 79 yX1_isYealm, Cond.static yX1_isYealm, Cond.code yX1_isYealm cX1_isYealm 2 (some .boolean), Cond.methodLink RX1 84 yX0_canCarry, Cond.instanceMethod yX0_canCarry, Cond.selects RX0 yX0_canCarry yX0_canCarry, Cond.code yX0_canCarry cX0_canCarry 3 (some .boolean), Cond.methodLink RX0 51 yX0_hasYealm, Cond.instanceMethod yX0_hasYealm, Cond.selects RX0 yX0_hasYealm yX0_hasYealm, Cond.code yX0_hasYealm cX0_hasYealm 3 (some .boolean), Cond.methodLink RX0 47 yX0_thicknessAt, Cond.instanceMethod yX0_thicknessAt, Cond.selects RX0 yX0_thicknessAt yX0_thicknessAt, Cond.code yX0_thicknessAt cX0_thicknessAt 3 (some .int), Cond.methodLink RX1 87 yX1_bundlesFor, Cond.static yX1_bundlesFor, Cond.code yX1_bundlesFor cX1_bundlesFor 1 (some .int), Cond.methodLink RX1 93 yX0_putYealm, Cond.instanceMethod yX0_putYealm, Cond.selects RX0 yX0_putYealm yX0_putYealm, Cond.code yX0_putYealm cX0_putYealm 7 none, Cond.methodLink RX0 58 yX0_hasPlace]
def wsL_law0_r8 : List Cond := [Cond.methodLink RX0 61 yX0_numberOf, Cond.instanceMethod yX0_numberOf, Cond.selects RX0 yX0_numberOf yX0_numberOf, Cond.code yX0_numberOf cX0_numberOf 3 (some .int), Cond.methodLink RL 93 yX3_lay, Cond.instanceMethod yX3_lay, Cond.selects RX3 yX3_lay yX3_lay, Cond.code yX3_lay cX3_lay 7 (some .int), Cond.methodLink RX3 69 yX3_isPlace, Cond.instanceMethod yX3_isPlace, Cond.selects RX3 yX3_isPlace yX3_isPlace, Cond.code yX3_isPlace cX3_isPlace 4 (some .boolean), Cond.methodLink RX3 55 yX3_isCourse, Cond.instanceMethod yX3_isCourse, Cond.selects RX3 yX3_isCourse yX3_isCourse, Cond.code yX3_isCourse cX3_isCourse 3 (some .boolean), Cond.methodLink RX3 51 yX3_isRoof, Cond.instanceMethod yX3_isRoof, Cond.selects RX3 yX3_isRoof yX3_isRoof, Cond.code yX3_isRoof cX3_isRoof 2 (some .boolean), Cond.methodLink RX3 72 yX3_isFree, Cond.instanceMethod yX3_isFree, Cond.selects RX3 yX3_isFree yX3_isFree, Cond.code yX3_isFree cX3_isFree 4 (some .boolean)]
def wsL_law0_r9 : List Cond := [Cond.methodLink RX3 66 yX2_isThere, Cond.instanceMethod yX2_isThere, Cond.selects RX2 yX2_isThere yX2_isThere, Cond.code yX2_isThere cX2_isThere 4 (some .boolean), Cond.static yX3_cell, Cond.code yX3_cell cX3_cell 3 (some .int), Cond.methodLink RX3 75 yX3_bundles, Cond.static yX3_bundles, Cond.code yX3_bundles cX3_bundles 1 (some .int), Cond.methodLink RX3 78 yX3_cell, Cond.methodLink RX3 82 yX2_put, Cond.instanceMethod yX2_put, Cond.selects RX2 yX2_put yX2_put, Cond.code yX2_put cX2_put 5 none, Cond.methodLink RL 94 yL_layCourse, Cond.static yL_layCourse, Cond.codeWith yL_layCourse cL_layCourse 8 (some .int) [(0, 16, 19, 21), (0, 16, 23, 13)], Cond.methodLink RL 30 yX1_layCourse, Cond.instanceMethod yX1_layCourse, Cond.selects RX1 yX1_layCourse yX1_layCourse, Cond.code yX1_layCourse cX1_layCourse 9 (some .int), Cond.methodLink RX1 97 yX0_hasCourse, Cond.methodLink RX1 102 yX0_wide, Cond.instanceMethod yX0_wide]
def wsL_law0_r10 : List Cond := [Cond.selects RX0 yX0_wide yX0_wide, Cond.code yX0_wide cX0_wide 1 (some .int), Cond.methodLink RL 97 yX3_layCourse, Cond.instanceMethod yX3_layCourse, Cond.selects RX3 yX3_layCourse yX3_layCourse, Cond.code yX3_layCourse cX3_layCourse 8 (some .int), Cond.methodLink RL 98 yL_mend, Cond.static yL_mend, Cond.codeWith yL_mend cL_mend 6 (some .int) [(0, 12, 15, 21), (0, 12, 19, 15)], Cond.methodLink RL 34 yX1_mend, Cond.instanceMethod yX1_mend, Cond.selects RX1 yX1_mend yX1_mend, Cond.code yX1_mend cX1_mend 6 (some .int), Cond.methodLink RX1 108 yX0_kindAt, Cond.instanceMethod yX0_kindAt, Cond.selects RX0 yX0_kindAt yX0_kindAt, Cond.code yX0_kindAt cX0_kindAt 3 (some .int), Cond.methodLink RX1 114 yX0_improve, Cond.instanceMethod yX0_improve, Cond.selects RX0 yX0_improve yX0_improve, Cond.code yX0_improve cX0_improve 4 none, Cond.methodLink RX0 64 Lib.Math.min.name, Cond.static Lib.Math.min.name, Cond.initialized "java/lang/Math"]
def wsL_law0_r11 : List Cond := [Cond.code Lib.Math.min.name Lib.Math.min.code 2 (some .int), Cond.methodLink RX1 118 yX0_thicknessAt, Cond.methodLink RL 100 yX3_mend, Cond.instanceMethod yX3_mend, Cond.selects RX3 yX3_mend yX3_mend, Cond.code yX3_mend cX3_mend 5 (some .int), Cond.methodLink RX3 89 yX2_mend, Cond.instanceMethod yX2_mend, Cond.selects RX2 yX2_mend yX2_mend, Cond.code yX2_mend cX2_mend 2 none, Cond.methodLink RX2 66 Lib.Math.min.name, Cond.methodLink RL 101 yL_bind, Cond.static yL_bind, Cond.codeWith yL_bind cL_bind 4 (some .int) [(0, 9, 12, 21), (0, 9, 15, 15)], Cond.methodLink RL 37 yX1_bind, Cond.instanceMethod yX1_bind, Cond.selects RX1 yX1_bind yX1_bind, Cond.code yX1_bind cX1_bind 3 (some .int), Cond.methodLink RX1 125 yX0_renewRidge, Cond.instanceMethod yX0_renewRidge, Cond.selects RX0 yX0_renewRidge yX0_renewRidge, Cond.code yX0_renewRidge cX0_renewRidge 2 (some .int), Cond.methodLink RL 104 yX3_bind, Cond.instanceMethod yX3_bind]
def wsL_law0_r12 : List Cond := [Cond.selects RX3 yX3_bind yX3_bind, Cond.code yX3_bind cX3_bind 3 (some .int), Cond.methodLink RL 105 yL_yealm, Cond.static yL_yealm, Cond.codeWith yL_yealm cL_yealm 7 (some .int) [(0, 14, 17, 21)], Cond.methodLink RL 41 yX1_yealm, Cond.instanceMethod yX1_yealm, Cond.selects RX1 yX1_yealm yX1_yealm, Cond.code yX1_yealm cX1_yealm 6 (some .int), Cond.methodLink RX1 130 yX0_tellYealm, Cond.instanceMethod yX0_tellYealm, Cond.selects RX0 yX0_tellYealm yX0_tellYealm, Cond.code yX0_tellYealm cX0_tellYealm 5 (some .int), Cond.methodLink RX0 69 yX0_isBare, Cond.instanceMethod yX0_isBare, Cond.selects RX0 yX0_isBare yX0_isBare, Cond.code yX0_isBare cX0_isBare 3 (some .boolean), Cond.methodLink RX0 55 yX0_isHighest, Cond.instanceMethod yX0_isHighest, Cond.selects RX0 yX0_isHighest yX0_isHighest, Cond.code yX0_isHighest cX0_isHighest 2 (some .boolean), Cond.methodLink RL 108 yX3_yealm, Cond.instanceMethod yX3_yealm, Cond.selects RX3 yX3_yealm yX3_yealm]
def wsL_law0_r13 : List Cond := [Cond.code yX3_yealm cX3_yealm 5 (some .int), Cond.methodLink RX3 105 yX3_yealmTold, Cond.instanceMethod yX3_yealmTold, Cond.selects RX3 yX3_yealmTold yX3_yealmTold, Cond.code yX3_yealmTold cX3_yealmTold 7 (some .int), Cond.methodLink RX3 102 yX2_isBare, Cond.instanceMethod yX2_isBare, Cond.selects RX2 yX2_isBare yX2_isBare, Cond.code yX2_isBare cX2_isBare 4 (some .boolean), Cond.methodLink RX2 59 yX2_isThere, Cond.methodLink RL 109 yL_roof, Cond.static yL_roof, Cond.codeWith yL_roof cL_roof 5 (some .int) [(0, 10, 13, 21)], Cond.methodLink RL 45 yX1_roof, Cond.instanceMethod yX1_roof, Cond.selects RX1 yX1_roof yX1_roof, Cond.code yX1_roof cX1_roof 4 (some .int), Cond.methodLink RX1 136 yX0_tell, Cond.instanceMethod yX0_tell, Cond.selects RX0 yX0_tell yX0_tell, Cond.code yX0_tell cX0_tell 2 (some .int), Cond.fieldLink RX0 82 "ThatchRoof$Roof" "torn" "I", Cond.fieldLink RX0 85 "ThatchRoof$Roof" "worn" "I", Cond.methodLink RX0 72 yX0_yealms]
def wsL_law0_r14 : List Cond := [Cond.instanceMethod yX0_yealms, Cond.selects RX0 yX0_yealms yX0_yealms, Cond.code yX0_yealms cX0_yealms 4 (some .int), Cond.methodLink RX0 76 yX0_thicknessInAll, Cond.instanceMethod yX0_thicknessInAll, Cond.selects RX0 yX0_thicknessInAll yX0_thicknessInAll, Cond.code yX0_thicknessInAll cX0_thicknessInAll 3 (some .int), Cond.methodLink RX0 88 yX0_thicknessOver, Cond.instanceMethod yX0_thicknessOver, Cond.selects RX0 yX0_thicknessOver yX0_thicknessOver, Cond.code yX0_thicknessOver cX0_thicknessOver 4 (some .int), Cond.methodLink RX0 79 yX0_leaks, Cond.instanceMethod yX0_leaks, Cond.selects RX0 yX0_leaks yX0_leaks, Cond.code yX0_leaks cX0_leaks 3 (some .int), Cond.methodLink RL 111 yX3_roof, Cond.instanceMethod yX3_roof, Cond.selects RX3 yX3_roof yX3_roof, Cond.code yX3_roof cX3_roof 3 (some .int), Cond.methodLink RX3 124 yX3_roofTold, Cond.instanceMethod yX3_roofTold, Cond.selects RX3 yX3_roofTold yX3_roofTold, Cond.code yX3_roofTold cX3_roofTold 4 (some .int), Cond.methodLink RX3 109 yX2_yealms]
def wsL_law0_r15 : List Cond := [Cond.instanceMethod yX2_yealms, Cond.selects RX2 yX2_yealms yX2_yealms, Cond.code yX2_yealms cX2_yealms 4 (some .int), Cond.methodLink RX3 112 yX2_thickness, Cond.instanceMethod yX2_thickness, Cond.selects RX2 yX2_thickness yX2_thickness, Cond.code yX2_thickness cX2_thickness 4 (some .int), Cond.methodLink RX3 115 yX2_leaks, Cond.instanceMethod yX2_leaks, Cond.selects RX2 yX2_leaks yX2_leaks, Cond.code yX2_leaks cX2_leaks 6 (some .int), Cond.methodLink RL 112 yL_count, Cond.static yL_count, Cond.codeWith yL_count cL_count 4 (some .int) [(0, 9, 12, 21)], Cond.methodLink RL 48 yX1_count, Cond.instanceMethod yX1_count, Cond.selects RX1 yX1_count yX1_count, Cond.code yX1_count cX1_count 2 (some .int), Cond.methodLink RX1 141 yX1_tally, Cond.instanceMethod yX1_tally, Cond.selects RX1 yX1_tally yX1_tally, Cond.code yX1_tally cX1_tally 2 (some .int), Cond.fieldLink RX1 155 "ThatchRoof" "month" "I", Cond.methodLink RX1 213 yX1_tallyOfRoofs]
def wsL_law0_r16 : List Cond := [Cond.instanceMethod yX1_tallyOfRoofs, Cond.selects RX1 yX1_tallyOfRoofs yX1_tallyOfRoofs, Cond.code yX1_tallyOfRoofs cX1_tallyOfRoofs 5 (some .int), Cond.methodLink RX1 146 yX1_rainAhead, Cond.instanceMethod yX1_rainAhead, Cond.selects RX1 yX1_rainAhead yX1_rainAhead, Cond.code yX1_rainAhead cX1_rainAhead 2 (some .int), Cond.methodLink RX1 210 yX1_monthOfYear, Cond.instanceMethod yX1_monthOfYear, Cond.selects RX1 yX1_monthOfYear yX1_monthOfYear, Cond.code yX1_monthOfYear cX1_monthOfYear 2 (some .int), Cond.methodLink RX1 205 yJ9_floorMod_7cf53, Cond.static yJ9_floorMod_7cf53, Cond.initialized RJ9, Cond.code yJ9_floorMod_7cf53 cJ9_floorMod_7cf53 3 (some .int), Cond.methodLink RX1 149 yX1_stormAhead, Cond.instanceMethod yX1_stormAhead, Cond.selects RX1 yX1_stormAhead yX1_stormAhead, Cond.code yX1_stormAhead cX1_stormAhead 2 (some .int), Cond.methodLink RL 114 yX3_count, Cond.instanceMethod yX3_count, Cond.selects RX3 yX3_count yX3_count, Cond.code yX3_count cX3_count 2 (some .int), Cond.methodLink RX3 131 yX3_counted]
def wsL_law0_r17 : List Cond := [Cond.instanceMethod yX3_counted, Cond.selects RX3 yX3_counted yX3_counted, Cond.code yX3_counted cX3_counted 5 (some .int), Cond.methodLink RL 115 yL_pass, Cond.static yL_pass, Cond.codeWith yL_pass cL_pass 4 (some .int) [(0, 9, 12, 13)], Cond.methodLink RL 51 yX1_pass, Cond.instanceMethod yX1_pass, Cond.selects RX1 yX1_pass yX1_pass, Cond.code yX1_pass cX1_pass 6 (some .int), Cond.methodLink RX1 152 yX0_liveMonth, Cond.instanceMethod yX0_liveMonth, Cond.selects RX0 yX0_liveMonth yX0_liveMonth, Cond.code yX0_liveMonth cX0_liveMonth 5 (some .int), Cond.methodLink RX0 92 yX0_liveMonthAt, Cond.instanceMethod yX0_liveMonthAt, Cond.selects RX0 yX0_liveMonthAt yX0_liveMonthAt, Cond.code yX0_liveMonthAt cX0_liveMonthAt 6 (some .int), Cond.methodLink RX0 100 yX0_rainOn, Cond.instanceMethod yX0_rainOn, Cond.selects RX0 yX0_rainOn yX0_rainOn, Cond.code yX0_rainOn cX0_rainOn 6 (some .int), Cond.methodLink RX0 110 Lib.Math.max.name, Cond.static Lib.Math.max.name]
def wsL_law0_r18 : List Cond := [Cond.code Lib.Math.max.name Lib.Math.max.code 2 (some .int), Cond.methodLink RX0 113 yX0_wearBy, Cond.instanceMethod yX0_wearBy, Cond.selects RX0 yX0_wearBy yX0_wearBy, Cond.code yX0_wearBy cX0_wearBy 6 (some .int), Cond.methodLink RX0 103 yX0_growMoss, Cond.instanceMethod yX0_growMoss, Cond.selects RX0 yX0_growMoss yX0_growMoss, Cond.code yX0_growMoss cX0_growMoss 5 none, Cond.methodLink RX0 107 yX0_stormOn, Cond.instanceMethod yX0_stormOn, Cond.selects RX0 yX0_stormOn yX0_stormOn, Cond.code yX0_stormOn cX0_stormOn 5 (some .int), Cond.methodLink RX0 116 yX0_wouldTear, Cond.instanceMethod yX0_wouldTear, Cond.selects RX0 yX0_wouldTear yX0_wouldTear, Cond.code yX0_wouldTear cX0_wouldTear 7 (some .boolean), Cond.methodLink RX0 120 yX0_isEnd, Cond.instanceMethod yX0_isEnd, Cond.selects RX0 yX0_isEnd yX0_isEnd, Cond.code yX0_isEnd cX0_isEnd 2 (some .boolean), Cond.methodLink RX0 96 yX0_wearRidge, Cond.instanceMethod yX0_wearRidge, Cond.selects RX0 yX0_wearRidge yX0_wearRidge]
def wsL_law0_r19 : List Cond := [Cond.code yX0_wearRidge cX0_wearRidge 2 none, Cond.methodLink RL 117 yX3_pass, Cond.instanceMethod yX3_pass, Cond.selects RX3 yX3_pass yX3_pass, Cond.code yX3_pass cX3_pass 6 (some .int), Cond.methodLink RX3 134 yX2_pass, Cond.instanceMethod yX2_pass, Cond.selects RX2 yX2_pass yX2_pass, Cond.code yX2_pass cX2_pass 6 none, Cond.methodLink RX2 103 Lib.Math.max.name, Cond.methodLink RX2 91 yX2_thinned, Cond.instanceMethod yX2_thinned, Cond.selects RX2 yX2_thinned yX2_thinned, Cond.code yX2_thinned cX2_thinned 7 (some .int), Cond.methodLink RX2 72 yX2_isBare, Cond.methodLink RX2 95 yX2_clear, Cond.instanceMethod yX2_clear, Cond.selects RX2 yX2_clear yX2_clear, Cond.code yX2_clear cX2_clear 4 (some .int), Cond.methodLink RX2 81 yX2_put, Cond.methodLink RX2 99 yX2_isTorn, Cond.instanceMethod yX2_isTorn, Cond.selects RX2 yX2_isTorn yX2_isTorn, Cond.code yX2_isTorn cX2_isTorn 8 (some .boolean)]
def wsL_law0_r20 : List Cond := [Cond.methodLink RL 118 yL_tears, Cond.static yL_tears, Cond.codeWith yL_tears cL_tears 5 (some .int) [(0, 10, 13, 21), (0, 10, 17, 13)], Cond.methodLink RL 54 yX1_tears, Cond.instanceMethod yX1_tears, Cond.selects RX1 yX1_tears yX1_tears, Cond.code yX1_tears cX1_tears 4 (some .int), Cond.methodLink RX1 160 yX0_wouldTearInAll, Cond.instanceMethod yX0_wouldTearInAll, Cond.selects RX0 yX0_wouldTearInAll yX0_wouldTearInAll, Cond.code yX0_wouldTearInAll cX0_wouldTearInAll 5 (some .int), Cond.methodLink RL 120 yX3_tears, Cond.instanceMethod yX3_tears, Cond.selects RX3 yX3_tears yX3_tears, Cond.code yX3_tears cX3_tears 6 (some .int), Cond.methodLink RX3 138 yX2_isTorn, Cond.methodLink RL 121 yL_holds, Cond.static yL_holds, Cond.codeWith yL_holds cL_holds 4 (some .int) [(0, 9, 12, 21)], Cond.methodLink RL 57 yX1_holds, Cond.instanceMethod yX1_holds, Cond.selects RX1 yX1_holds yX1_holds, Cond.code yX1_holds cX1_holds 5 (some .int), Cond.methodLink RX1 163 yX0_leaks]
def wsL_law0_r21 : List Cond := [Cond.methodLink RX1 166 yX0_becomeLike, Cond.instanceMethod yX0_becomeLike, Cond.selects RX0 yX0_becomeLike yX0_becomeLike, Cond.code yX0_becomeLike cX0_becomeLike 2 none, Cond.methodLink RX0 37 arraycopyName, Cond.native arraycopyName, Cond.static arraycopyName, Cond.initialized "java/lang/System", Cond.methodLink RL 123 yX3_holds, Cond.instanceMethod yX3_holds, Cond.selects RX3 yX3_holds yX3_holds, Cond.code yX3_holds cX3_holds 4 (some .int), Cond.methodLink RX3 142 yX2_become, Cond.instanceMethod yX2_become, Cond.selects RX2 yX2_become yX2_become, Cond.code yX2_become cX2_become 2 none, Cond.fieldLink RX2 47 "ThatchRoofModel$State" "month" "I", Cond.methodLink RX2 51 yX2_copy, Cond.instanceMethod yX2_copy, Cond.selects RX2 yX2_copy yX2_copy, Cond.code yX2_copy cX2_copy 3 none, Cond.methodLink RX2 41 arraycopyName, Cond.methodLink RL 124 yL_foresee, Cond.static yL_foresee]
def wsL_law0_r22 : List Cond := [Cond.codeWith yL_foresee cL_foresee 6 (some .int) [(0, 12, 15, 21), (0, 12, 19, 13)], Cond.methodLink RL 60 yX1_foresee, Cond.instanceMethod yX1_foresee, Cond.selects RX1 yX1_foresee yX1_foresee, Cond.code yX1_foresee cX1_foresee 6 (some .int), Cond.methodLink RX1 174 yX0_yealms, Cond.methodLink RX1 177 yX0_ridgeLeft, Cond.instanceMethod yX0_ridgeLeft, Cond.selects RX0 yX0_ridgeLeft yX0_ridgeLeft, Cond.code yX0_ridgeLeft cX0_ridgeLeft 1 (some .int), Cond.methodLink RL 126 yX3_foresee, Cond.instanceMethod yX3_foresee, Cond.selects RX3 yX3_foresee yX3_foresee, Cond.code yX3_foresee cX3_foresee 5 (some .int), Cond.methodLink RL 127 yL_advise, Cond.static yL_advise, Cond.codeWith yL_advise cL_advise 5 (some .int) [(0, 10, 13, 21), (0, 10, 17, 13)], Cond.methodLink RL 63 yX1_advise, Cond.instanceMethod yX1_advise, Cond.selects RX1 yX1_advise yX1_advise, Cond.code yX1_advise cX1_advise 11 (some .int), Cond.methodLink RX1 182 yX1_lostAt, Cond.instanceMethod yX1_lostAt, Cond.selects RX1 yX1_lostAt yX1_lostAt]
def wsL_law0_r23 : List Cond := [Cond.code yX1_lostAt cX1_lostAt 7 (some .int), Cond.methodLink RX1 216 yX0_liveMonthAt, Cond.methodLink RX1 219 yX0_wearRidge, Cond.methodLink RX1 186 yX0_high, Cond.instanceMethod yX0_high, Cond.selects RX0 yX0_high yX0_high, Cond.code yX0_high cX0_high 1 (some .int), Cond.methodLink RX1 189 yX0_numberOf, Cond.methodLink RL 129 yX3_advise, Cond.instanceMethod yX3_advise, Cond.selects RX3 yX3_advise yX3_advise, Cond.code yX3_advise cX3_advise 8 (some .int), Cond.methodLink RX3 146 yX3_left, Cond.instanceMethod yX3_left, Cond.selects RX3 yX3_left yX3_left, Cond.code yX3_left cX3_left 5 (some .int), Cond.methodLink RL 130 yL_needs, Cond.static yL_needs, Cond.codeWith yL_needs cL_needs 5 (some .int) [(0, 10, 13, 21), (0, 10, 17, 13)], Cond.methodLink RL 66 yX1_needs, Cond.instanceMethod yX1_needs, Cond.selects RX1 yX1_needs yX1_needs, Cond.code yX1_needs cX1_needs 5 (some .int), Cond.methodLink RL 132 yX3_needs]
def wsL_law0_r24 : List Cond := [Cond.instanceMethod yX3_needs, Cond.selects RX3 yX3_needs yX3_needs, Cond.code yX3_needs cX3_needs 3 (some .int), Cond.methodLink RL 133 yX1_mean, Cond.instanceMethod yX1_mean, Cond.selects RX1 yX1_mean yX1_mean, Cond.code yX1_mean cX1_mean 5 (some .double), Cond.methodLink RX1 194 yX0_thicknessInAll, Cond.methodLink RL 137 yX3_mean, Cond.instanceMethod yX3_mean, Cond.selects RX3 yX3_mean yX3_mean, Cond.code yX3_mean cX3_mean 4 (some .double), Cond.methodLink RL 138 yX1_digest, Cond.instanceMethod yX1_digest, Cond.selects RX1 yX1_digest yX1_digest, Cond.code yX1_digest cX1_digest 5 (some .long), Cond.constantLong RX1 197 (739), Cond.constantLong RX1 199 (31), Cond.methodLink RX1 201 yX1_digestRoof, Cond.static yX1_digestRoof, Cond.code yX1_digestRoof cX1_digestRoof 8 (some .long), Cond.methodLink RL 142 yX3_digest, Cond.instanceMethod yX3_digest, Cond.selects RX3 yX3_digest yX3_digest]
def wsL_law0_r25 : List Cond := [Cond.code yX3_digest cX3_digest 7 (some .long), Cond.constantLong RX3 149 (739), Cond.constantLong RX3 151 (31)]
def wsL_law0 : List Cond := (wsL_law0_r1 ++ (wsL_law0_r2 ++ (wsL_law0_r3 ++ (wsL_law0_r4 ++ (wsL_law0_r5 ++ (wsL_law0_r6 ++ (wsL_law0_r7 ++ (wsL_law0_r8 ++ (wsL_law0_r9 ++ (wsL_law0_r10 ++ (wsL_law0_r11 ++ (wsL_law0_r12 ++ (wsL_law0_r13 ++ (wsL_law0_r14 ++ (wsL_law0_r15 ++ (wsL_law0_r16 ++ (wsL_law0_r17 ++ (wsL_law0_r18 ++ (wsL_law0_r19 ++ (wsL_law0_r20 ++ (wsL_law0_r21 ++ (wsL_law0_r22 ++ (wsL_law0_r23 ++ (wsL_law0_r24 ++ wsL_law0_r25)))))))))))))))))))))))) ++ wsX10 ++ wsX30 ++ wsX00 ++ wsX20 ++ ([] : List Cond)
def wsL_law : List Cond := wsL_law0 ++ (vx_atS RX1 40 "java/lang/IllegalArgumentException" ["java/lang/RuntimeException", "java/lang/Exception"]).filter goodWord ++ (vx_atS RX1 51 "java/lang/IllegalStateException" ["java/lang/RuntimeException", "java/lang/Exception"]).filter goodWord ++ (vx_atS RX1 60 "java/lang/IndexOutOfBoundsException" ["java/lang/RuntimeException", "java/lang/Exception"]).filter goodWord
abbrev vwCl : List vw_C := [(RX0, TX0, 10), (RX1, TX1, 7), (RX2, TX2, 10), (RX3, TX3, 10)]
end
section
theorem dX0_init_0 : decode cX0_init 0 = .ok (.aload_n 0, 1) := by decide +kernel
theorem dX0_init_1 : decode cX0_init 1 = .ok (.invokespecial 3, 3) := by decide +kernel
theorem dX0_init_4 : decode cX0_init 4 = .ok (.aload_n 0, 1) := by decide +kernel
theorem dX0_init_5 : decode cX0_init 5 = .ok (.bipush 60, 2) := by decide +kernel
theorem dX0_init_7 : decode cX0_init 7 = .ok (.newarray .int, 2) := by decide +kernel
theorem dX0_init_9 : decode cX0_init 9 = .ok (.putfield 9, 3) := by decide +kernel
theorem dX0_init_12 : decode cX0_init 12 = .ok (.aload_n 0, 1) := by decide +kernel
theorem dX0_init_13 : decode cX0_init 13 = .ok (.bipush 60, 2) := by decide +kernel
theorem dX0_init_15 : decode cX0_init 15 = .ok (.newarray .int, 2) := by decide +kernel
theorem dX0_init_17 : decode cX0_init 17 = .ok (.putfield 15, 3) := by decide +kernel
theorem dX0_init_20 : decode cX0_init 20 = .ok (.aload_n 0, 1) := by decide +kernel
theorem dX0_init_21 : decode cX0_init 21 = .ok (.bipush 60, 2) := by decide +kernel
theorem dX0_init_23 : decode cX0_init 23 = .ok (.newarray .int, 2) := by decide +kernel
theorem dX0_init_25 : decode cX0_init 25 = .ok (.putfield 18, 3) := by decide +kernel
theorem dX0_init_28 : decode cX0_init 28 = .ok (.aload_n 0, 1) := by decide +kernel
theorem dX0_init_29 : decode cX0_init 29 = .ok (.bipush 60, 2) := by decide +kernel
theorem dX0_init_31 : decode cX0_init 31 = .ok (.newarray .int, 2) := by decide +kernel
theorem dX0_init_33 : decode cX0_init 33 = .ok (.putfield 21, 3) := by decide +kernel
theorem dX0_init_36 : decode cX0_init 36 = .ok (.aload_n 0, 1) := by decide +kernel
theorem dX0_init_37 : decode cX0_init 37 = .ok (.iload_n 1, 1) := by decide +kernel
theorem dX0_init_38 : decode cX0_init 38 = .ok (.putfield 24, 3) := by decide +kernel
theorem dX0_init_41 : decode cX0_init 41 = .ok (.aload_n 0, 1) := by decide +kernel
theorem dX0_init_42 : decode cX0_init 42 = .ok (.iload_n 2, 1) := by decide +kernel
theorem dX0_init_43 : decode cX0_init 43 = .ok (.putfield 28, 3) := by decide +kernel
theorem dX0_init_46 : decode cX0_init 46 = .ok (.aload_n 0, 1) := by decide +kernel
theorem dX0_init_47 : decode cX0_init 47 = .ok (.iload_n 3, 1) := by decide +kernel
theorem dX0_init_48 : decode cX0_init 48 = .ok (.putfield 31, 3) := by decide +kernel
theorem dX0_init_51 : decode cX0_init 51 = .ok (.aload_n 0, 1) := by decide +kernel
theorem dX0_init_52 : decode cX0_init 52 = .ok (.bipush 100, 2) := by decide +kernel
theorem dX0_init_54 : decode cX0_init 54 = .ok (.putfield 34, 3) := by decide +kernel
theorem dX0_init_57 : decode cX0_init 57 = .ok (.return_, 1) := by decide +kernel
theorem dX0_becomeLike_0 : decode cX0_becomeLike 0 = .ok (.aload_n 0, 1) := by decide +kernel
theorem dX0_becomeLike_1 : decode cX0_becomeLike 1 = .ok (.aload_n 1, 1) := by decide +kernel
theorem dX0_becomeLike_2 : decode cX0_becomeLike 2 = .ok (.getfield 24, 3) := by decide +kernel
theorem dX0_becomeLike_5 : decode cX0_becomeLike 5 = .ok (.putfield 24, 3) := by decide +kernel
theorem dX0_becomeLike_8 : decode cX0_becomeLike 8 = .ok (.aload_n 0, 1) := by decide +kernel
theorem dX0_becomeLike_9 : decode cX0_becomeLike 9 = .ok (.aload_n 1, 1) := by decide +kernel
theorem dX0_becomeLike_10 : decode cX0_becomeLike 10 = .ok (.getfield 28, 3) := by decide +kernel
theorem dX0_becomeLike_13 : decode cX0_becomeLike 13 = .ok (.putfield 28, 3) := by decide +kernel
theorem dX0_becomeLike_16 : decode cX0_becomeLike 16 = .ok (.aload_n 0, 1) := by decide +kernel
theorem dX0_becomeLike_17 : decode cX0_becomeLike 17 = .ok (.aload_n 1, 1) := by decide +kernel
theorem dX0_becomeLike_18 : decode cX0_becomeLike 18 = .ok (.getfield 31, 3) := by decide +kernel
theorem dX0_becomeLike_21 : decode cX0_becomeLike 21 = .ok (.putfield 31, 3) := by decide +kernel
theorem dX0_becomeLike_24 : decode cX0_becomeLike 24 = .ok (.aload_n 0, 1) := by decide +kernel
theorem dX0_becomeLike_25 : decode cX0_becomeLike 25 = .ok (.aload_n 1, 1) := by decide +kernel
theorem dX0_becomeLike_26 : decode cX0_becomeLike 26 = .ok (.getfield 34, 3) := by decide +kernel
theorem dX0_becomeLike_29 : decode cX0_becomeLike 29 = .ok (.putfield 34, 3) := by decide +kernel
theorem dX0_becomeLike_32 : decode cX0_becomeLike 32 = .ok (.aload_n 1, 1) := by decide +kernel
theorem dX0_becomeLike_33 : decode cX0_becomeLike 33 = .ok (.getfield 9, 3) := by decide +kernel
theorem dX0_becomeLike_36 : decode cX0_becomeLike 36 = .ok (.iconst 0, 1) := by decide +kernel
theorem dX0_becomeLike_37 : decode cX0_becomeLike 37 = .ok (.aload_n 0, 1) := by decide +kernel
theorem dX0_becomeLike_38 : decode cX0_becomeLike 38 = .ok (.getfield 9, 3) := by decide +kernel
theorem dX0_becomeLike_41 : decode cX0_becomeLike 41 = .ok (.iconst 0, 1) := by decide +kernel
theorem dX0_becomeLike_42 : decode cX0_becomeLike 42 = .ok (.bipush 60, 2) := by decide +kernel
theorem dX0_becomeLike_44 : decode cX0_becomeLike 44 = .ok (.invokestatic 37, 3) := by decide +kernel
theorem dX0_becomeLike_47 : decode cX0_becomeLike 47 = .ok (.aload_n 1, 1) := by decide +kernel
theorem dX0_becomeLike_48 : decode cX0_becomeLike 48 = .ok (.getfield 15, 3) := by decide +kernel
theorem dX0_becomeLike_51 : decode cX0_becomeLike 51 = .ok (.iconst 0, 1) := by decide +kernel
theorem dX0_becomeLike_52 : decode cX0_becomeLike 52 = .ok (.aload_n 0, 1) := by decide +kernel
theorem dX0_becomeLike_53 : decode cX0_becomeLike 53 = .ok (.getfield 15, 3) := by decide +kernel
theorem dX0_becomeLike_56 : decode cX0_becomeLike 56 = .ok (.iconst 0, 1) := by decide +kernel
theorem dX0_becomeLike_57 : decode cX0_becomeLike 57 = .ok (.bipush 60, 2) := by decide +kernel
theorem dX0_becomeLike_59 : decode cX0_becomeLike 59 = .ok (.invokestatic 37, 3) := by decide +kernel
theorem dX0_becomeLike_62 : decode cX0_becomeLike 62 = .ok (.aload_n 1, 1) := by decide +kernel
theorem dX0_becomeLike_63 : decode cX0_becomeLike 63 = .ok (.getfield 18, 3) := by decide +kernel
theorem dX0_becomeLike_66 : decode cX0_becomeLike 66 = .ok (.iconst 0, 1) := by decide +kernel
theorem dX0_becomeLike_67 : decode cX0_becomeLike 67 = .ok (.aload_n 0, 1) := by decide +kernel
theorem dX0_becomeLike_68 : decode cX0_becomeLike 68 = .ok (.getfield 18, 3) := by decide +kernel
theorem dX0_becomeLike_71 : decode cX0_becomeLike 71 = .ok (.iconst 0, 1) := by decide +kernel
theorem dX0_becomeLike_72 : decode cX0_becomeLike 72 = .ok (.bipush 60, 2) := by decide +kernel
theorem dX0_becomeLike_74 : decode cX0_becomeLike 74 = .ok (.invokestatic 37, 3) := by decide +kernel
theorem dX0_becomeLike_77 : decode cX0_becomeLike 77 = .ok (.aload_n 1, 1) := by decide +kernel
theorem dX0_becomeLike_78 : decode cX0_becomeLike 78 = .ok (.getfield 21, 3) := by decide +kernel
theorem dX0_becomeLike_81 : decode cX0_becomeLike 81 = .ok (.iconst 0, 1) := by decide +kernel
theorem dX0_becomeLike_82 : decode cX0_becomeLike 82 = .ok (.aload_n 0, 1) := by decide +kernel
theorem dX0_becomeLike_83 : decode cX0_becomeLike 83 = .ok (.getfield 21, 3) := by decide +kernel
theorem dX0_becomeLike_86 : decode cX0_becomeLike 86 = .ok (.iconst 0, 1) := by decide +kernel
theorem dX0_becomeLike_87 : decode cX0_becomeLike 87 = .ok (.bipush 60, 2) := by decide +kernel
theorem dX0_becomeLike_89 : decode cX0_becomeLike 89 = .ok (.invokestatic 37, 3) := by decide +kernel
theorem dX0_becomeLike_92 : decode cX0_becomeLike 92 = .ok (.return_, 1) := by decide +kernel
theorem dX0_wide_0 : decode cX0_wide 0 = .ok (.aload_n 0, 1) := by decide +kernel
theorem dX0_wide_1 : decode cX0_wide 1 = .ok (.getfield 24, 3) := by decide +kernel
theorem dX0_wide_4 : decode cX0_wide 4 = .ok (.ireturn, 1) := by decide +kernel
theorem dX0_high_0 : decode cX0_high 0 = .ok (.aload_n 0, 1) := by decide +kernel
theorem dX0_high_1 : decode cX0_high 1 = .ok (.getfield 28, 3) := by decide +kernel
theorem dX0_high_4 : decode cX0_high 4 = .ok (.ireturn, 1) := by decide +kernel
theorem dX0_ridgeLeft_0 : decode cX0_ridgeLeft 0 = .ok (.aload_n 0, 1) := by decide +kernel
theorem dX0_ridgeLeft_1 : decode cX0_ridgeLeft 1 = .ok (.getfield 34, 3) := by decide +kernel
theorem dX0_ridgeLeft_4 : decode cX0_ridgeLeft 4 = .ok (.ireturn, 1) := by decide +kernel
theorem dX0_hasCourse_0 : decode cX0_hasCourse 0 = .ok (.iload_n 1, 1) := by decide +kernel
theorem dX0_hasCourse_1 : decode cX0_hasCourse 1 = .ok (.ifCond .lt 15, 3) := by decide +kernel
theorem dX0_hasCourse_4 : decode cX0_hasCourse 4 = .ok (.iload_n 1, 1) := by decide +kernel
theorem dX0_hasCourse_5 : decode cX0_hasCourse 5 = .ok (.aload_n 0, 1) := by decide +kernel
theorem dX0_hasCourse_6 : decode cX0_hasCourse 6 = .ok (.getfield 28, 3) := by decide +kernel
theorem dX0_hasCourse_9 : decode cX0_hasCourse 9 = .ok (.if_icmp .ge 7, 3) := by decide +kernel
theorem dX0_hasCourse_12 : decode cX0_hasCourse 12 = .ok (.iconst 1, 1) := by decide +kernel
theorem dX0_hasCourse_13 : decode cX0_hasCourse 13 = .ok (.goto 4, 3) := by decide +kernel
theorem dX0_hasCourse_16 : decode cX0_hasCourse 16 = .ok (.iconst 0, 1) := by decide +kernel
theorem dX0_hasCourse_17 : decode cX0_hasCourse 17 = .ok (.ireturn, 1) := by decide +kernel
set_option maxRecDepth 20000 in
theorem ggX0_hasPlace_X0_hasCourse : GoodIn wsX0_hasPlace wsX0_hasCourse := goodIn_r _ [6, 7, 8, 9, 10, 11, 12, 13, 14, 15, 16, 17] (by decide +kernel) (by decide +kernel)
set_option maxRecDepth 20000 in
theorem gX0_hasPlace_X0_hasCourse : GoodIn wsX0_hasPlace (wsV RX0 43 RX0 yX0_hasCourse wsX0_hasCourse) := goodIn_app (goodIn_of _ (by decide +kernel)) ggX0_hasPlace_X0_hasCourse
theorem dX0_hasPlace_0 : decode cX0_hasPlace 0 = .ok (.aload_n 0, 1) := by decide +kernel
theorem dX0_hasPlace_1 : decode cX0_hasPlace 1 = .ok (.iload_n 1, 1) := by decide +kernel
theorem dX0_hasPlace_2 : decode cX0_hasPlace 2 = .ok (.invokevirtual 43, 3) := by decide +kernel
theorem dX0_hasPlace_5 : decode cX0_hasPlace 5 = .ok (.ifCond .eq 19, 3) := by decide +kernel
theorem dX0_hasPlace_8 : decode cX0_hasPlace 8 = .ok (.iload_n 2, 1) := by decide +kernel
theorem dX0_hasPlace_9 : decode cX0_hasPlace 9 = .ok (.ifCond .lt 15, 3) := by decide +kernel
theorem dX0_hasPlace_12 : decode cX0_hasPlace 12 = .ok (.iload_n 2, 1) := by decide +kernel
theorem dX0_hasPlace_13 : decode cX0_hasPlace 13 = .ok (.aload_n 0, 1) := by decide +kernel
theorem dX0_hasPlace_14 : decode cX0_hasPlace 14 = .ok (.getfield 24, 3) := by decide +kernel
theorem dX0_hasPlace_17 : decode cX0_hasPlace 17 = .ok (.if_icmp .ge 7, 3) := by decide +kernel
theorem dX0_hasPlace_20 : decode cX0_hasPlace 20 = .ok (.iconst 1, 1) := by decide +kernel
theorem dX0_hasPlace_21 : decode cX0_hasPlace 21 = .ok (.goto 4, 3) := by decide +kernel
theorem dX0_hasPlace_24 : decode cX0_hasPlace 24 = .ok (.iconst 0, 1) := by decide +kernel
theorem dX0_hasPlace_25 : decode cX0_hasPlace 25 = .ok (.ireturn, 1) := by decide +kernel
theorem dX0_numberOf_0 : decode cX0_numberOf 0 = .ok (.iload_n 1, 1) := by decide +kernel
theorem dX0_numberOf_1 : decode cX0_numberOf 1 = .ok (.aload_n 0, 1) := by decide +kernel
theorem dX0_numberOf_2 : decode cX0_numberOf 2 = .ok (.getfield 24, 3) := by decide +kernel
theorem dX0_numberOf_5 : decode cX0_numberOf 5 = .ok (.imul, 1) := by decide +kernel
theorem dX0_numberOf_6 : decode cX0_numberOf 6 = .ok (.iload_n 2, 1) := by decide +kernel
theorem dX0_numberOf_7 : decode cX0_numberOf 7 = .ok (.iadd, 1) := by decide +kernel
theorem dX0_numberOf_8 : decode cX0_numberOf 8 = .ok (.ireturn, 1) := by decide +kernel
theorem dX0_isHighest_0 : decode cX0_isHighest 0 = .ok (.iload_n 1, 1) := by decide +kernel
theorem dX0_isHighest_1 : decode cX0_isHighest 1 = .ok (.aload_n 0, 1) := by decide +kernel
theorem dX0_isHighest_2 : decode cX0_isHighest 2 = .ok (.getfield 28, 3) := by decide +kernel
theorem dX0_isHighest_5 : decode cX0_isHighest 5 = .ok (.iconst 1, 1) := by decide +kernel
theorem dX0_isHighest_6 : decode cX0_isHighest 6 = .ok (.isub, 1) := by decide +kernel
theorem dX0_isHighest_7 : decode cX0_isHighest 7 = .ok (.if_icmp .ne 7, 3) := by decide +kernel
theorem dX0_isHighest_10 : decode cX0_isHighest 10 = .ok (.iconst 1, 1) := by decide +kernel
theorem dX0_isHighest_11 : decode cX0_isHighest 11 = .ok (.goto 4, 3) := by decide +kernel
theorem dX0_isHighest_14 : decode cX0_isHighest 14 = .ok (.iconst 0, 1) := by decide +kernel
theorem dX0_isHighest_15 : decode cX0_isHighest 15 = .ok (.ireturn, 1) := by decide +kernel
theorem dX0_isEnd_0 : decode cX0_isEnd 0 = .ok (.iload_n 1, 1) := by decide +kernel
theorem dX0_isEnd_1 : decode cX0_isEnd 1 = .ok (.ifCond .eq 13, 3) := by decide +kernel
theorem dX0_isEnd_4 : decode cX0_isEnd 4 = .ok (.iload_n 1, 1) := by decide +kernel
theorem dX0_isEnd_5 : decode cX0_isEnd 5 = .ok (.aload_n 0, 1) := by decide +kernel
theorem dX0_isEnd_6 : decode cX0_isEnd 6 = .ok (.getfield 24, 3) := by decide +kernel
theorem dX0_isEnd_9 : decode cX0_isEnd 9 = .ok (.iconst 1, 1) := by decide +kernel
theorem dX0_isEnd_10 : decode cX0_isEnd 10 = .ok (.isub, 1) := by decide +kernel
theorem dX0_isEnd_11 : decode cX0_isEnd 11 = .ok (.if_icmp .ne 7, 3) := by decide +kernel
theorem dX0_isEnd_14 : decode cX0_isEnd 14 = .ok (.iconst 1, 1) := by decide +kernel
theorem dX0_isEnd_15 : decode cX0_isEnd 15 = .ok (.goto 4, 3) := by decide +kernel
theorem dX0_isEnd_18 : decode cX0_isEnd 18 = .ok (.iconst 0, 1) := by decide +kernel
theorem dX0_isEnd_19 : decode cX0_isEnd 19 = .ok (.ireturn, 1) := by decide +kernel
theorem dX0_thicknessAt_0 : decode cX0_thicknessAt 0 = .ok (.iload_n 1, 1) := by decide +kernel
theorem dX0_thicknessAt_1 : decode cX0_thicknessAt 1 = .ok (.ifCond .lt 23, 3) := by decide +kernel
theorem dX0_thicknessAt_4 : decode cX0_thicknessAt 4 = .ok (.iload_n 1, 1) := by decide +kernel
theorem dX0_thicknessAt_5 : decode cX0_thicknessAt 5 = .ok (.aload_n 0, 1) := by decide +kernel
theorem dX0_thicknessAt_6 : decode cX0_thicknessAt 6 = .ok (.getfield 28, 3) := by decide +kernel
theorem dX0_thicknessAt_9 : decode cX0_thicknessAt 9 = .ok (.if_icmp .ge 15, 3) := by decide +kernel
theorem dX0_thicknessAt_12 : decode cX0_thicknessAt 12 = .ok (.iload_n 2, 1) := by decide +kernel
theorem dX0_thicknessAt_13 : decode cX0_thicknessAt 13 = .ok (.ifCond .lt 11, 3) := by decide +kernel
theorem dX0_thicknessAt_16 : decode cX0_thicknessAt 16 = .ok (.iload_n 2, 1) := by decide +kernel
theorem dX0_thicknessAt_17 : decode cX0_thicknessAt 17 = .ok (.aload_n 0, 1) := by decide +kernel
theorem dX0_thicknessAt_18 : decode cX0_thicknessAt 18 = .ok (.getfield 24, 3) := by decide +kernel
theorem dX0_thicknessAt_21 : decode cX0_thicknessAt 21 = .ok (.if_icmp .lt 5, 3) := by decide +kernel
theorem dX0_thicknessAt_24 : decode cX0_thicknessAt 24 = .ok (.iconst 0, 1) := by decide +kernel
theorem dX0_thicknessAt_25 : decode cX0_thicknessAt 25 = .ok (.ireturn, 1) := by decide +kernel
theorem dX0_thicknessAt_26 : decode cX0_thicknessAt 26 = .ok (.aload_n 0, 1) := by decide +kernel
theorem dX0_thicknessAt_27 : decode cX0_thicknessAt 27 = .ok (.getfield 15, 3) := by decide +kernel
theorem dX0_thicknessAt_30 : decode cX0_thicknessAt 30 = .ok (.iload_n 1, 1) := by decide +kernel
theorem dX0_thicknessAt_31 : decode cX0_thicknessAt 31 = .ok (.aload_n 0, 1) := by decide +kernel
theorem dX0_thicknessAt_32 : decode cX0_thicknessAt 32 = .ok (.getfield 24, 3) := by decide +kernel
theorem dX0_thicknessAt_35 : decode cX0_thicknessAt 35 = .ok (.imul, 1) := by decide +kernel
theorem dX0_thicknessAt_36 : decode cX0_thicknessAt 36 = .ok (.iload_n 2, 1) := by decide +kernel
theorem dX0_thicknessAt_37 : decode cX0_thicknessAt 37 = .ok (.iadd, 1) := by decide +kernel
theorem dX0_thicknessAt_38 : decode cX0_thicknessAt 38 = .ok (.iaload, 1) := by decide +kernel
theorem dX0_thicknessAt_39 : decode cX0_thicknessAt 39 = .ok (.ireturn, 1) := by decide +kernel
set_option maxRecDepth 20000 in
theorem ggX0_hasYealm_X0_thicknessAt : GoodIn wsX0_hasYealm wsX0_thicknessAt := goodIn_r _ [5, 6, 7, 8, 9, 10, 11, 12, 13, 14, 15, 16, 17, 18] (by decide +kernel) (by decide +kernel)
set_option maxRecDepth 20000 in
theorem gX0_hasYealm_X0_thicknessAt : GoodIn wsX0_hasYealm (wsV RX0 47 RX0 yX0_thicknessAt wsX0_thicknessAt) := goodIn_app (goodIn_of _ (by decide +kernel)) ggX0_hasYealm_X0_thicknessAt
theorem dX0_hasYealm_0 : decode cX0_hasYealm 0 = .ok (.aload_n 0, 1) := by decide +kernel
theorem dX0_hasYealm_1 : decode cX0_hasYealm 1 = .ok (.iload_n 1, 1) := by decide +kernel
theorem dX0_hasYealm_2 : decode cX0_hasYealm 2 = .ok (.iload_n 2, 1) := by decide +kernel
theorem dX0_hasYealm_3 : decode cX0_hasYealm 3 = .ok (.invokevirtual 47, 3) := by decide +kernel
theorem dX0_hasYealm_6 : decode cX0_hasYealm 6 = .ok (.ifCond .le 7, 3) := by decide +kernel
theorem dX0_hasYealm_9 : decode cX0_hasYealm 9 = .ok (.iconst 1, 1) := by decide +kernel
theorem dX0_hasYealm_10 : decode cX0_hasYealm 10 = .ok (.goto 4, 3) := by decide +kernel
theorem dX0_hasYealm_13 : decode cX0_hasYealm 13 = .ok (.iconst 0, 1) := by decide +kernel
theorem dX0_hasYealm_14 : decode cX0_hasYealm 14 = .ok (.ireturn, 1) := by decide +kernel
set_option maxRecDepth 20000 in
theorem ggX0_canCarry_X0_hasYealm : GoodIn wsX0_canCarry wsX0_hasYealm := goodIn_r _ [5, 6, 7, 8, 4, 9, 10, 11, 12, 13, 14, 15, 16, 17, 18, 19, 20, 21, 22] (by decide +kernel) (by decide +kernel)
set_option maxRecDepth 20000 in
theorem gX0_canCarry_X0_hasYealm : GoodIn wsX0_canCarry (wsV RX0 51 RX0 yX0_hasYealm wsX0_hasYealm) := goodIn_app (goodIn_of _ (by decide +kernel)) ggX0_canCarry_X0_hasYealm
theorem dX0_canCarry_0 : decode cX0_canCarry 0 = .ok (.aload_n 0, 1) := by decide +kernel
theorem dX0_canCarry_1 : decode cX0_canCarry 1 = .ok (.iload_n 1, 1) := by decide +kernel
theorem dX0_canCarry_2 : decode cX0_canCarry 2 = .ok (.iload_n 2, 1) := by decide +kernel
theorem dX0_canCarry_3 : decode cX0_canCarry 3 = .ok (.invokevirtual 51, 3) := by decide +kernel
theorem dX0_canCarry_6 : decode cX0_canCarry 6 = .ok (.ifCond .ne 22, 3) := by decide +kernel
theorem dX0_canCarry_9 : decode cX0_canCarry 9 = .ok (.iload_n 1, 1) := by decide +kernel
theorem dX0_canCarry_10 : decode cX0_canCarry 10 = .ok (.ifCond .eq 14, 3) := by decide +kernel
theorem dX0_canCarry_13 : decode cX0_canCarry 13 = .ok (.aload_n 0, 1) := by decide +kernel
theorem dX0_canCarry_14 : decode cX0_canCarry 14 = .ok (.iload_n 1, 1) := by decide +kernel
theorem dX0_canCarry_15 : decode cX0_canCarry 15 = .ok (.iconst 1, 1) := by decide +kernel
theorem dX0_canCarry_16 : decode cX0_canCarry 16 = .ok (.isub, 1) := by decide +kernel
theorem dX0_canCarry_17 : decode cX0_canCarry 17 = .ok (.iload_n 2, 1) := by decide +kernel
theorem dX0_canCarry_18 : decode cX0_canCarry 18 = .ok (.invokevirtual 51, 3) := by decide +kernel
theorem dX0_canCarry_21 : decode cX0_canCarry 21 = .ok (.ifCond .eq 7, 3) := by decide +kernel
theorem dX0_canCarry_24 : decode cX0_canCarry 24 = .ok (.iconst 1, 1) := by decide +kernel
theorem dX0_canCarry_25 : decode cX0_canCarry 25 = .ok (.goto 4, 3) := by decide +kernel
theorem dX0_canCarry_28 : decode cX0_canCarry 28 = .ok (.iconst 0, 1) := by decide +kernel
theorem dX0_canCarry_29 : decode cX0_canCarry 29 = .ok (.ireturn, 1) := by decide +kernel
set_option maxRecDepth 20000 in
theorem ggX0_isBare_X0_isHighest : GoodIn wsX0_isBare wsX0_isHighest := goodIn_r _ [5, 6, 13, 14, 15, 16, 17, 18, 19, 20, 21, 22] (by decide +kernel) (by decide +kernel)
set_option maxRecDepth 20000 in
theorem gX0_isBare_X0_isHighest : GoodIn wsX0_isBare (wsV RX0 55 RX0 yX0_isHighest wsX0_isHighest) := goodIn_app (goodIn_of _ (by decide +kernel)) ggX0_isBare_X0_isHighest
set_option maxRecDepth 20000 in
theorem ggX0_isBare_X0_thicknessAt : GoodIn wsX0_isBare wsX0_thicknessAt := goodIn_r _ [10, 6, 11, 12, 13, 14, 15, 16, 17, 18, 19, 20, 21, 22] (by decide +kernel) (by decide +kernel)
set_option maxRecDepth 20000 in
theorem gX0_isBare_X0_thicknessAt : GoodIn wsX0_isBare (wsV RX0 47 RX0 yX0_thicknessAt wsX0_thicknessAt) := goodIn_app (goodIn_of _ (by decide +kernel)) ggX0_isBare_X0_thicknessAt
theorem dX0_isBare_0 : decode cX0_isBare 0 = .ok (.aload_n 0, 1) := by decide +kernel
theorem dX0_isBare_1 : decode cX0_isBare 1 = .ok (.iload_n 1, 1) := by decide +kernel
theorem dX0_isBare_2 : decode cX0_isBare 2 = .ok (.invokevirtual 55, 3) := by decide +kernel
theorem dX0_isBare_5 : decode cX0_isBare 5 = .ok (.ifCond .ne 18, 3) := by decide +kernel
theorem dX0_isBare_8 : decode cX0_isBare 8 = .ok (.aload_n 0, 1) := by decide +kernel
theorem dX0_isBare_9 : decode cX0_isBare 9 = .ok (.iload_n 1, 1) := by decide +kernel
theorem dX0_isBare_10 : decode cX0_isBare 10 = .ok (.iconst 1, 1) := by decide +kernel
theorem dX0_isBare_11 : decode cX0_isBare 11 = .ok (.iadd, 1) := by decide +kernel
theorem dX0_isBare_12 : decode cX0_isBare 12 = .ok (.iload_n 2, 1) := by decide +kernel
theorem dX0_isBare_13 : decode cX0_isBare 13 = .ok (.invokevirtual 47, 3) := by decide +kernel
theorem dX0_isBare_16 : decode cX0_isBare 16 = .ok (.ifCond .ne 7, 3) := by decide +kernel
theorem dX0_isBare_19 : decode cX0_isBare 19 = .ok (.iconst 1, 1) := by decide +kernel
theorem dX0_isBare_20 : decode cX0_isBare 20 = .ok (.goto 4, 3) := by decide +kernel
theorem dX0_isBare_23 : decode cX0_isBare 23 = .ok (.iconst 0, 1) := by decide +kernel
theorem dX0_isBare_24 : decode cX0_isBare 24 = .ok (.ireturn, 1) := by decide +kernel
set_option maxRecDepth 20000 in
theorem ggX0_putYealm_X0_hasPlace : GoodIn wsX0_putYealm wsX0_hasPlace := goodIn_r _ [9, 10, 11, 12, 13, 8, 14, 15, 20, 21, 22, 23, 24, 25, 26, 27, 28, 29] (by decide +kernel) (by decide +kernel)
set_option maxRecDepth 20000 in
theorem gX0_putYealm_X0_hasPlace : GoodIn wsX0_putYealm (wsV RX0 58 RX0 yX0_hasPlace wsX0_hasPlace) := goodIn_app (goodIn_of _ (by decide +kernel)) ggX0_putYealm_X0_hasPlace
set_option maxRecDepth 20000 in
theorem ggX0_putYealm_X0_numberOf : GoodIn wsX0_putYealm wsX0_numberOf := goodIn_r _ [19, 10, 20, 21, 22, 23, 24, 25, 26, 27, 28, 29] (by decide +kernel) (by decide +kernel)
set_option maxRecDepth 20000 in
theorem gX0_putYealm_X0_numberOf : GoodIn wsX0_putYealm (wsV RX0 61 RX0 yX0_numberOf wsX0_numberOf) := goodIn_app (goodIn_of _ (by decide +kernel)) ggX0_putYealm_X0_numberOf
theorem dX0_putYealm_0 : decode cX0_putYealm 0 = .ok (.aload_n 0, 1) := by decide +kernel
theorem dX0_putYealm_1 : decode cX0_putYealm 1 = .ok (.iload_n 1, 1) := by decide +kernel
theorem dX0_putYealm_2 : decode cX0_putYealm 2 = .ok (.iload_n 2, 1) := by decide +kernel
theorem dX0_putYealm_3 : decode cX0_putYealm 3 = .ok (.invokevirtual 58, 3) := by decide +kernel
theorem dX0_putYealm_6 : decode cX0_putYealm 6 = .ok (.ifCond .ne 4, 3) := by decide +kernel
theorem dX0_putYealm_9 : decode cX0_putYealm 9 = .ok (.return_, 1) := by decide +kernel
theorem dX0_putYealm_10 : decode cX0_putYealm 10 = .ok (.aload_n 0, 1) := by decide +kernel
theorem dX0_putYealm_11 : decode cX0_putYealm 11 = .ok (.iload_n 1, 1) := by decide +kernel
theorem dX0_putYealm_12 : decode cX0_putYealm 12 = .ok (.iload_n 2, 1) := by decide +kernel
theorem dX0_putYealm_13 : decode cX0_putYealm 13 = .ok (.invokevirtual 61, 3) := by decide +kernel
theorem dX0_putYealm_16 : decode cX0_putYealm 16 = .ok (.istore 6, 2) := by decide +kernel
theorem dX0_putYealm_18 : decode cX0_putYealm 18 = .ok (.aload_n 0, 1) := by decide +kernel
theorem dX0_putYealm_19 : decode cX0_putYealm 19 = .ok (.getfield 9, 3) := by decide +kernel
theorem dX0_putYealm_22 : decode cX0_putYealm 22 = .ok (.iload 6, 2) := by decide +kernel
theorem dX0_putYealm_24 : decode cX0_putYealm 24 = .ok (.iload_n 3, 1) := by decide +kernel
theorem dX0_putYealm_25 : decode cX0_putYealm 25 = .ok (.iastore, 1) := by decide +kernel
theorem dX0_putYealm_26 : decode cX0_putYealm 26 = .ok (.aload_n 0, 1) := by decide +kernel
theorem dX0_putYealm_27 : decode cX0_putYealm 27 = .ok (.getfield 15, 3) := by decide +kernel
theorem dX0_putYealm_30 : decode cX0_putYealm 30 = .ok (.iload 6, 2) := by decide +kernel
theorem dX0_putYealm_32 : decode cX0_putYealm 32 = .ok (.iload 4, 2) := by decide +kernel
theorem dX0_putYealm_34 : decode cX0_putYealm 34 = .ok (.iastore, 1) := by decide +kernel
theorem dX0_putYealm_35 : decode cX0_putYealm 35 = .ok (.aload_n 0, 1) := by decide +kernel
theorem dX0_putYealm_36 : decode cX0_putYealm 36 = .ok (.getfield 18, 3) := by decide +kernel
theorem dX0_putYealm_39 : decode cX0_putYealm 39 = .ok (.iload 6, 2) := by decide +kernel
theorem dX0_putYealm_41 : decode cX0_putYealm 41 = .ok (.iload 5, 2) := by decide +kernel
theorem dX0_putYealm_43 : decode cX0_putYealm 43 = .ok (.iastore, 1) := by decide +kernel
theorem dX0_putYealm_44 : decode cX0_putYealm 44 = .ok (.aload_n 0, 1) := by decide +kernel
theorem dX0_putYealm_45 : decode cX0_putYealm 45 = .ok (.getfield 21, 3) := by decide +kernel
theorem dX0_putYealm_48 : decode cX0_putYealm 48 = .ok (.iload 6, 2) := by decide +kernel
theorem dX0_putYealm_50 : decode cX0_putYealm 50 = .ok (.iconst 0, 1) := by decide +kernel
theorem dX0_putYealm_51 : decode cX0_putYealm 51 = .ok (.iastore, 1) := by decide +kernel
theorem dX0_putYealm_52 : decode cX0_putYealm 52 = .ok (.return_, 1) := by decide +kernel
set_option maxRecDepth 20000 in
theorem ggX0_kindAt_X0_hasYealm : GoodIn wsX0_kindAt wsX0_hasYealm := goodIn_r _ [6, 7, 8, 9, 5, 10, 11, 12, 13, 18, 19, 20, 21, 22, 23, 24, 25, 26, 27] (by decide +kernel) (by decide +kernel)
set_option maxRecDepth 20000 in
theorem gX0_kindAt_X0_hasYealm : GoodIn wsX0_kindAt (wsV RX0 51 RX0 yX0_hasYealm wsX0_hasYealm) := goodIn_app (goodIn_of _ (by decide +kernel)) ggX0_kindAt_X0_hasYealm
set_option maxRecDepth 20000 in
theorem ggX0_kindAt_X0_numberOf : GoodIn wsX0_kindAt wsX0_numberOf := goodIn_r _ [17, 12, 18, 19, 20, 21, 22, 23, 24, 25, 26, 27] (by decide +kernel) (by decide +kernel)
set_option maxRecDepth 20000 in
theorem gX0_kindAt_X0_numberOf : GoodIn wsX0_kindAt (wsV RX0 61 RX0 yX0_numberOf wsX0_numberOf) := goodIn_app (goodIn_of _ (by decide +kernel)) ggX0_kindAt_X0_numberOf
theorem dX0_kindAt_0 : decode cX0_kindAt 0 = .ok (.aload_n 0, 1) := by decide +kernel
theorem dX0_kindAt_1 : decode cX0_kindAt 1 = .ok (.iload_n 1, 1) := by decide +kernel
theorem dX0_kindAt_2 : decode cX0_kindAt 2 = .ok (.iload_n 2, 1) := by decide +kernel
theorem dX0_kindAt_3 : decode cX0_kindAt 3 = .ok (.invokevirtual 51, 3) := by decide +kernel
theorem dX0_kindAt_6 : decode cX0_kindAt 6 = .ok (.ifCond .eq 17, 3) := by decide +kernel
theorem dX0_kindAt_9 : decode cX0_kindAt 9 = .ok (.aload_n 0, 1) := by decide +kernel
theorem dX0_kindAt_10 : decode cX0_kindAt 10 = .ok (.getfield 9, 3) := by decide +kernel
theorem dX0_kindAt_13 : decode cX0_kindAt 13 = .ok (.aload_n 0, 1) := by decide +kernel
theorem dX0_kindAt_14 : decode cX0_kindAt 14 = .ok (.iload_n 1, 1) := by decide +kernel
theorem dX0_kindAt_15 : decode cX0_kindAt 15 = .ok (.iload_n 2, 1) := by decide +kernel
theorem dX0_kindAt_16 : decode cX0_kindAt 16 = .ok (.invokevirtual 61, 3) := by decide +kernel
theorem dX0_kindAt_19 : decode cX0_kindAt 19 = .ok (.iaload, 1) := by decide +kernel
theorem dX0_kindAt_20 : decode cX0_kindAt 20 = .ok (.goto 4, 3) := by decide +kernel
theorem dX0_kindAt_23 : decode cX0_kindAt 23 = .ok (.iconst (-1), 1) := by decide +kernel
theorem dX0_kindAt_24 : decode cX0_kindAt 24 = .ok (.ireturn, 1) := by decide +kernel
set_option maxRecDepth 20000 in
theorem ggX0_improve_X0_hasYealm : GoodIn wsX0_improve wsX0_hasYealm := goodIn_r _ [12, 13, 14, 15, 11, 16, 17, 18, 7, 23, 24, 25, 26, 27, 28, 29, 30, 31, 32] (by decide +kernel) (by decide +kernel)
set_option maxRecDepth 20000 in
theorem gX0_improve_X0_hasYealm : GoodIn wsX0_improve (wsV RX0 51 RX0 yX0_hasYealm wsX0_hasYealm) := goodIn_app (goodIn_of _ (by decide +kernel)) ggX0_improve_X0_hasYealm
set_option maxRecDepth 20000 in
theorem ggX0_improve_X0_numberOf : GoodIn wsX0_improve wsX0_numberOf := goodIn_r _ [22, 18, 23, 24, 25, 26, 27, 28, 29, 30, 31, 32] (by decide +kernel) (by decide +kernel)
set_option maxRecDepth 20000 in
theorem gX0_improve_X0_numberOf : GoodIn wsX0_improve (wsV RX0 61 RX0 yX0_numberOf wsX0_numberOf) := goodIn_app (goodIn_of _ (by decide +kernel)) ggX0_improve_X0_numberOf
theorem dX0_improve_0 : decode cX0_improve 0 = .ok (.aload_n 0, 1) := by decide +kernel
theorem dX0_improve_1 : decode cX0_improve 1 = .ok (.iload_n 1, 1) := by decide +kernel
theorem dX0_improve_2 : decode cX0_improve 2 = .ok (.iload_n 2, 1) := by decide +kernel
theorem dX0_improve_3 : decode cX0_improve 3 = .ok (.invokevirtual 51, 3) := by decide +kernel
theorem dX0_improve_6 : decode cX0_improve 6 = .ok (.ifCond .ne 4, 3) := by decide +kernel
theorem dX0_improve_9 : decode cX0_improve 9 = .ok (.return_, 1) := by decide +kernel
theorem dX0_improve_10 : decode cX0_improve 10 = .ok (.aload_n 0, 1) := by decide +kernel
theorem dX0_improve_11 : decode cX0_improve 11 = .ok (.iload_n 1, 1) := by decide +kernel
theorem dX0_improve_12 : decode cX0_improve 12 = .ok (.iload_n 2, 1) := by decide +kernel
theorem dX0_improve_13 : decode cX0_improve 13 = .ok (.invokevirtual 61, 3) := by decide +kernel
theorem dX0_improve_16 : decode cX0_improve 16 = .ok (.istore_n 3, 1) := by decide +kernel
theorem dX0_improve_17 : decode cX0_improve 17 = .ok (.aload_n 0, 1) := by decide +kernel
theorem dX0_improve_18 : decode cX0_improve 18 = .ok (.getfield 21, 3) := by decide +kernel
theorem dX0_improve_21 : decode cX0_improve 21 = .ok (.iload_n 3, 1) := by decide +kernel
theorem dX0_improve_22 : decode cX0_improve 22 = .ok (.iconst 0, 1) := by decide +kernel
theorem dX0_improve_23 : decode cX0_improve 23 = .ok (.iastore, 1) := by decide +kernel
theorem dX0_improve_24 : decode cX0_improve 24 = .ok (.aload_n 0, 1) := by decide +kernel
theorem dX0_improve_25 : decode cX0_improve 25 = .ok (.getfield 18, 3) := by decide +kernel
theorem dX0_improve_28 : decode cX0_improve 28 = .ok (.iload_n 3, 1) := by decide +kernel
theorem dX0_improve_29 : decode cX0_improve 29 = .ok (.aload_n 0, 1) := by decide +kernel
theorem dX0_improve_30 : decode cX0_improve 30 = .ok (.getfield 18, 3) := by decide +kernel
theorem dX0_improve_33 : decode cX0_improve 33 = .ok (.iload_n 3, 1) := by decide +kernel
theorem dX0_improve_34 : decode cX0_improve 34 = .ok (.iaload, 1) := by decide +kernel
theorem dX0_improve_35 : decode cX0_improve 35 = .ok (.iconst 2, 1) := by decide +kernel
theorem dX0_improve_36 : decode cX0_improve 36 = .ok (.iadd, 1) := by decide +kernel
theorem dX0_improve_37 : decode cX0_improve 37 = .ok (.bipush 9, 2) := by decide +kernel
theorem dX0_improve_39 : decode cX0_improve 39 = .ok (.invokestatic 64, 3) := by decide +kernel
theorem dX0_improve_42 : decode cX0_improve 42 = .ok (.iastore, 1) := by decide +kernel
theorem dX0_improve_43 : decode cX0_improve 43 = .ok (.aload_n 0, 1) := by decide +kernel
theorem dX0_improve_44 : decode cX0_improve 44 = .ok (.getfield 15, 3) := by decide +kernel
theorem dX0_improve_47 : decode cX0_improve 47 = .ok (.iload_n 3, 1) := by decide +kernel
theorem dX0_improve_48 : decode cX0_improve 48 = .ok (.aload_n 0, 1) := by decide +kernel
theorem dX0_improve_49 : decode cX0_improve 49 = .ok (.getfield 15, 3) := by decide +kernel
theorem dX0_improve_52 : decode cX0_improve 52 = .ok (.iload_n 3, 1) := by decide +kernel
theorem dX0_improve_53 : decode cX0_improve 53 = .ok (.iaload, 1) := by decide +kernel
theorem dX0_improve_54 : decode cX0_improve 54 = .ok (.bipush 10, 2) := by decide +kernel
theorem dX0_improve_56 : decode cX0_improve 56 = .ok (.iadd, 1) := by decide +kernel
theorem dX0_improve_57 : decode cX0_improve 57 = .ok (.bipush 40, 2) := by decide +kernel
theorem dX0_improve_59 : decode cX0_improve 59 = .ok (.invokestatic 64, 3) := by decide +kernel
theorem dX0_improve_62 : decode cX0_improve 62 = .ok (.iastore, 1) := by decide +kernel
theorem dX0_improve_63 : decode cX0_improve 63 = .ok (.return_, 1) := by decide +kernel
theorem dX0_renewRidge_0 : decode cX0_renewRidge 0 = .ok (.aload_n 0, 1) := by decide +kernel
theorem dX0_renewRidge_1 : decode cX0_renewRidge 1 = .ok (.getfield 34, 3) := by decide +kernel
theorem dX0_renewRidge_4 : decode cX0_renewRidge 4 = .ok (.istore_n 1, 1) := by decide +kernel
theorem dX0_renewRidge_5 : decode cX0_renewRidge 5 = .ok (.aload_n 0, 1) := by decide +kernel
theorem dX0_renewRidge_6 : decode cX0_renewRidge 6 = .ok (.bipush 100, 2) := by decide +kernel
theorem dX0_renewRidge_8 : decode cX0_renewRidge 8 = .ok (.putfield 34, 3) := by decide +kernel
theorem dX0_renewRidge_11 : decode cX0_renewRidge 11 = .ok (.iload_n 1, 1) := by decide +kernel
theorem dX0_renewRidge_12 : decode cX0_renewRidge 12 = .ok (.ireturn, 1) := by decide +kernel
set_option maxRecDepth 20000 in
theorem ggX0_tellYealm_X0_hasYealm : GoodIn wsX0_tellYealm wsX0_hasYealm := goodIn_r _ [9, 10, 11, 12, 8, 13, 14, 15, 2, 28, 29, 30, 31, 32, 33, 34, 35, 36, 37] (by decide +kernel) (by decide +kernel)
set_option maxRecDepth 20000 in
theorem gX0_tellYealm_X0_hasYealm : GoodIn wsX0_tellYealm (wsV RX0 51 RX0 yX0_hasYealm wsX0_hasYealm) := goodIn_app (goodIn_of _ (by decide +kernel)) ggX0_tellYealm_X0_hasYealm
set_option maxRecDepth 20000 in
theorem ggX0_tellYealm_X0_numberOf : GoodIn wsX0_tellYealm wsX0_numberOf := goodIn_r _ [19, 15, 28, 29, 30, 31, 32, 33, 34, 35, 36, 37] (by decide +kernel) (by decide +kernel)
set_option maxRecDepth 20000 in
theorem gX0_tellYealm_X0_numberOf : GoodIn wsX0_tellYealm (wsV RX0 61 RX0 yX0_numberOf wsX0_numberOf) := goodIn_app (goodIn_of _ (by decide +kernel)) ggX0_tellYealm_X0_numberOf
set_option maxRecDepth 20000 in
theorem ggX0_tellYealm_X0_isBare : GoodIn wsX0_tellYealm wsX0_isBare := goodIn_r _ [23, 24, 25, 26, 8, 27, 14, 10, 11, 12, 13, 15, 2, 28, 29, 30, 31, 32, 33, 34, 35, 36, 37] (by decide +kernel) (by decide +kernel)
set_option maxRecDepth 20000 in
theorem gX0_tellYealm_X0_isBare : GoodIn wsX0_tellYealm (wsV RX0 69 RX0 yX0_isBare wsX0_isBare) := goodIn_app (goodIn_of _ (by decide +kernel)) ggX0_tellYealm_X0_isBare
theorem dX0_tellYealm_0 : decode cX0_tellYealm 0 = .ok (.aload_n 0, 1) := by decide +kernel
theorem dX0_tellYealm_1 : decode cX0_tellYealm 1 = .ok (.iload_n 1, 1) := by decide +kernel
theorem dX0_tellYealm_2 : decode cX0_tellYealm 2 = .ok (.iload_n 2, 1) := by decide +kernel
theorem dX0_tellYealm_3 : decode cX0_tellYealm 3 = .ok (.invokevirtual 51, 3) := by decide +kernel
theorem dX0_tellYealm_6 : decode cX0_tellYealm 6 = .ok (.ifCond .ne 14, 3) := by decide +kernel
theorem dX0_tellYealm_9 : decode cX0_tellYealm 9 = .ok (.iload_n 3, 1) := by decide +kernel
theorem dX0_tellYealm_10 : decode cX0_tellYealm 10 = .ok (.iconst 1, 1) := by decide +kernel
theorem dX0_tellYealm_11 : decode cX0_tellYealm 11 = .ok (.if_icmp .ne 7, 3) := by decide +kernel
theorem dX0_tellYealm_14 : decode cX0_tellYealm 14 = .ok (.iconst (-1), 1) := by decide +kernel
theorem dX0_tellYealm_15 : decode cX0_tellYealm 15 = .ok (.goto 4, 3) := by decide +kernel
theorem dX0_tellYealm_18 : decode cX0_tellYealm 18 = .ok (.iconst 0, 1) := by decide +kernel
theorem dX0_tellYealm_19 : decode cX0_tellYealm 19 = .ok (.ireturn, 1) := by decide +kernel
theorem dX0_tellYealm_20 : decode cX0_tellYealm 20 = .ok (.aload_n 0, 1) := by decide +kernel
theorem dX0_tellYealm_21 : decode cX0_tellYealm 21 = .ok (.iload_n 1, 1) := by decide +kernel
theorem dX0_tellYealm_22 : decode cX0_tellYealm 22 = .ok (.iload_n 2, 1) := by decide +kernel
theorem dX0_tellYealm_23 : decode cX0_tellYealm 23 = .ok (.invokevirtual 61, 3) := by decide +kernel
theorem dX0_tellYealm_26 : decode cX0_tellYealm 26 = .ok (.istore 4, 2) := by decide +kernel
theorem dX0_tellYealm_28 : decode cX0_tellYealm 28 = .ok (.iload_n 3, 1) := by decide +kernel
theorem dX0_tellYealm_29 : decode cX0_tellYealm 29 = .ok (.tableswitch 69 0 4 #[35, 37, 45, 53, 61], 35) := by decide +kernel
theorem dX0_tellYealm_64 : decode cX0_tellYealm 64 = .ok (.iconst 1, 1) := by decide +kernel
theorem dX0_tellYealm_65 : decode cX0_tellYealm 65 = .ok (.ireturn, 1) := by decide +kernel
theorem dX0_tellYealm_66 : decode cX0_tellYealm 66 = .ok (.aload_n 0, 1) := by decide +kernel
theorem dX0_tellYealm_67 : decode cX0_tellYealm 67 = .ok (.getfield 9, 3) := by decide +kernel
theorem dX0_tellYealm_70 : decode cX0_tellYealm 70 = .ok (.iload 4, 2) := by decide +kernel
theorem dX0_tellYealm_72 : decode cX0_tellYealm 72 = .ok (.iaload, 1) := by decide +kernel
theorem dX0_tellYealm_73 : decode cX0_tellYealm 73 = .ok (.ireturn, 1) := by decide +kernel
theorem dX0_tellYealm_74 : decode cX0_tellYealm 74 = .ok (.aload_n 0, 1) := by decide +kernel
theorem dX0_tellYealm_75 : decode cX0_tellYealm 75 = .ok (.getfield 15, 3) := by decide +kernel
theorem dX0_tellYealm_78 : decode cX0_tellYealm 78 = .ok (.iload 4, 2) := by decide +kernel
theorem dX0_tellYealm_80 : decode cX0_tellYealm 80 = .ok (.iaload, 1) := by decide +kernel
theorem dX0_tellYealm_81 : decode cX0_tellYealm 81 = .ok (.ireturn, 1) := by decide +kernel
theorem dX0_tellYealm_82 : decode cX0_tellYealm 82 = .ok (.aload_n 0, 1) := by decide +kernel
theorem dX0_tellYealm_83 : decode cX0_tellYealm 83 = .ok (.getfield 18, 3) := by decide +kernel
theorem dX0_tellYealm_86 : decode cX0_tellYealm 86 = .ok (.iload 4, 2) := by decide +kernel
theorem dX0_tellYealm_88 : decode cX0_tellYealm 88 = .ok (.iaload, 1) := by decide +kernel
theorem dX0_tellYealm_89 : decode cX0_tellYealm 89 = .ok (.ireturn, 1) := by decide +kernel
theorem dX0_tellYealm_90 : decode cX0_tellYealm 90 = .ok (.aload_n 0, 1) := by decide +kernel
theorem dX0_tellYealm_91 : decode cX0_tellYealm 91 = .ok (.getfield 21, 3) := by decide +kernel
theorem dX0_tellYealm_94 : decode cX0_tellYealm 94 = .ok (.iload 4, 2) := by decide +kernel
theorem dX0_tellYealm_96 : decode cX0_tellYealm 96 = .ok (.iaload, 1) := by decide +kernel
theorem dX0_tellYealm_97 : decode cX0_tellYealm 97 = .ok (.ireturn, 1) := by decide +kernel
theorem dX0_tellYealm_98 : decode cX0_tellYealm 98 = .ok (.aload_n 0, 1) := by decide +kernel
theorem dX0_tellYealm_99 : decode cX0_tellYealm 99 = .ok (.iload_n 1, 1) := by decide +kernel
theorem dX0_tellYealm_100 : decode cX0_tellYealm 100 = .ok (.iload_n 2, 1) := by decide +kernel
theorem dX0_tellYealm_101 : decode cX0_tellYealm 101 = .ok (.invokevirtual 69, 3) := by decide +kernel
theorem dX0_tellYealm_104 : decode cX0_tellYealm 104 = .ok (.ifCond .eq 7, 3) := by decide +kernel
theorem dX0_tellYealm_107 : decode cX0_tellYealm 107 = .ok (.iconst 1, 1) := by decide +kernel
theorem dX0_tellYealm_108 : decode cX0_tellYealm 108 = .ok (.goto 4, 3) := by decide +kernel
theorem dX0_tellYealm_111 : decode cX0_tellYealm 111 = .ok (.iconst 0, 1) := by decide +kernel
theorem dX0_tellYealm_112 : decode cX0_tellYealm 112 = .ok (.ireturn, 1) := by decide +kernel
set_option maxRecDepth 20000 in
theorem ggX0_tell_X0_yealms : GoodIn wsX0_tell wsX0_yealms := goodIn_r _ [11, 2, 1, 12, 13, 14, 10, 15, 16, 17, 18, 19, 20, 33, 34, 35, 36, 37, 38, 39, 40, 41, 42] (by decide +kernel) (by decide +kernel)
set_option maxRecDepth 20000 in
theorem gX0_tell_X0_yealms : GoodIn wsX0_tell (wsV RX0 72 RX0 yX0_yealms wsX0_yealms) := goodIn_app (goodIn_of _ (by decide +kernel)) ggX0_tell_X0_yealms
set_option maxRecDepth 20000 in
theorem ggX0_tell_X0_thicknessInAll : GoodIn wsX0_tell wsX0_thicknessInAll := goodIn_r _ [24, 1, 25, 26, 27, 10, 28, 2, 16, 17, 18, 19, 20, 33, 34, 35, 36, 37, 38, 39, 40, 41, 42] (by decide +kernel) (by decide +kernel)
set_option maxRecDepth 20000 in
theorem gX0_tell_X0_thicknessInAll : GoodIn wsX0_tell (wsV RX0 76 RX0 yX0_thicknessInAll wsX0_thicknessInAll) := goodIn_app (goodIn_of _ (by decide +kernel)) ggX0_tell_X0_thicknessInAll
set_option maxRecDepth 20000 in
theorem ggX0_tell_X0_leaks : GoodIn wsX0_tell wsX0_leaks := goodIn_r _ [32, 1, 2, 25, 26, 27, 10, 28, 16, 17, 18, 19, 20, 12, 13, 14, 15, 33, 34, 35, 36, 37, 38, 39, 40, 41, 42] (by decide +kernel) (by decide +kernel)
set_option maxRecDepth 20000 in
theorem gX0_tell_X0_leaks : GoodIn wsX0_tell (wsV RX0 79 RX0 yX0_leaks wsX0_leaks) := goodIn_app (goodIn_of _ (by decide +kernel)) ggX0_tell_X0_leaks
theorem dX0_tell_0 : decode cX0_tell 0 = .ok (.iload_n 1, 1) := by decide +kernel
theorem dX0_tell_1 : decode cX0_tell 1 = .ok (.tableswitch 87 0 7 #[47, 52, 57, 62, 67, 72, 77, 82], 47) := by decide +kernel
theorem dX0_tell_48 : decode cX0_tell 48 = .ok (.aload_n 0, 1) := by decide +kernel
theorem dX0_tell_49 : decode cX0_tell 49 = .ok (.getfield 24, 3) := by decide +kernel
theorem dX0_tell_52 : decode cX0_tell 52 = .ok (.ireturn, 1) := by decide +kernel
theorem dX0_tell_53 : decode cX0_tell 53 = .ok (.aload_n 0, 1) := by decide +kernel
theorem dX0_tell_54 : decode cX0_tell 54 = .ok (.getfield 28, 3) := by decide +kernel
theorem dX0_tell_57 : decode cX0_tell 57 = .ok (.ireturn, 1) := by decide +kernel
theorem dX0_tell_58 : decode cX0_tell 58 = .ok (.aload_n 0, 1) := by decide +kernel
theorem dX0_tell_59 : decode cX0_tell 59 = .ok (.getfield 31, 3) := by decide +kernel
theorem dX0_tell_62 : decode cX0_tell 62 = .ok (.ireturn, 1) := by decide +kernel
theorem dX0_tell_63 : decode cX0_tell 63 = .ok (.aload_n 0, 1) := by decide +kernel
theorem dX0_tell_64 : decode cX0_tell 64 = .ok (.getfield 34, 3) := by decide +kernel
theorem dX0_tell_67 : decode cX0_tell 67 = .ok (.ireturn, 1) := by decide +kernel
theorem dX0_tell_68 : decode cX0_tell 68 = .ok (.aload_n 0, 1) := by decide +kernel
theorem dX0_tell_69 : decode cX0_tell 69 = .ok (.invokevirtual 72, 3) := by decide +kernel
theorem dX0_tell_72 : decode cX0_tell 72 = .ok (.ireturn, 1) := by decide +kernel
theorem dX0_tell_73 : decode cX0_tell 73 = .ok (.aload_n 0, 1) := by decide +kernel
theorem dX0_tell_74 : decode cX0_tell 74 = .ok (.invokevirtual 76, 3) := by decide +kernel
theorem dX0_tell_77 : decode cX0_tell 77 = .ok (.ireturn, 1) := by decide +kernel
theorem dX0_tell_78 : decode cX0_tell 78 = .ok (.aload_n 0, 1) := by decide +kernel
theorem dX0_tell_79 : decode cX0_tell 79 = .ok (.invokevirtual 79, 3) := by decide +kernel
theorem dX0_tell_82 : decode cX0_tell 82 = .ok (.ireturn, 1) := by decide +kernel
theorem dX0_tell_83 : decode cX0_tell 83 = .ok (.aload_n 0, 1) := by decide +kernel
theorem dX0_tell_84 : decode cX0_tell 84 = .ok (.getfield 82, 3) := by decide +kernel
theorem dX0_tell_87 : decode cX0_tell 87 = .ok (.ireturn, 1) := by decide +kernel
theorem dX0_tell_88 : decode cX0_tell 88 = .ok (.aload_n 0, 1) := by decide +kernel
theorem dX0_tell_89 : decode cX0_tell 89 = .ok (.getfield 85, 3) := by decide +kernel
theorem dX0_tell_92 : decode cX0_tell 92 = .ok (.ireturn, 1) := by decide +kernel
set_option maxRecDepth 20000 in
theorem ggX0_yealms_X0_hasYealm : GoodIn wsX0_yealms wsX0_hasYealm := goodIn_r _ [7, 8, 9, 10, 6, 11, 1, 2, 12, 13, 14, 15, 16, 17, 18, 19, 20, 21, 22] (by decide +kernel) (by decide +kernel)
set_option maxRecDepth 20000 in
theorem gX0_yealms_X0_hasYealm : GoodIn wsX0_yealms (wsV RX0 51 RX0 yX0_hasYealm wsX0_hasYealm) := goodIn_app (goodIn_of _ (by decide +kernel)) ggX0_yealms_X0_hasYealm
theorem dX0_yealms_0 : decode cX0_yealms 0 = .ok (.iconst 0, 1) := by decide +kernel
theorem dX0_yealms_1 : decode cX0_yealms 1 = .ok (.istore_n 1, 1) := by decide +kernel
theorem dX0_yealms_2 : decode cX0_yealms 2 = .ok (.iconst 0, 1) := by decide +kernel
theorem dX0_yealms_3 : decode cX0_yealms 3 = .ok (.istore_n 2, 1) := by decide +kernel
theorem dX0_yealms_4 : decode cX0_yealms 4 = .ok (.iload_n 2, 1) := by decide +kernel
theorem dX0_yealms_5 : decode cX0_yealms 5 = .ok (.aload_n 0, 1) := by decide +kernel
theorem dX0_yealms_6 : decode cX0_yealms 6 = .ok (.getfield 28, 3) := by decide +kernel
theorem dX0_yealms_9 : decode cX0_yealms 9 = .ok (.if_icmp .ge 37, 3) := by decide +kernel
theorem dX0_yealms_12 : decode cX0_yealms 12 = .ok (.iconst 0, 1) := by decide +kernel
theorem dX0_yealms_13 : decode cX0_yealms 13 = .ok (.istore_n 3, 1) := by decide +kernel
theorem dX0_yealms_14 : decode cX0_yealms 14 = .ok (.iload_n 3, 1) := by decide +kernel
theorem dX0_yealms_15 : decode cX0_yealms 15 = .ok (.aload_n 0, 1) := by decide +kernel
theorem dX0_yealms_16 : decode cX0_yealms 16 = .ok (.getfield 24, 3) := by decide +kernel
theorem dX0_yealms_19 : decode cX0_yealms 19 = .ok (.if_icmp .ge 21, 3) := by decide +kernel
theorem dX0_yealms_22 : decode cX0_yealms 22 = .ok (.aload_n 0, 1) := by decide +kernel
theorem dX0_yealms_23 : decode cX0_yealms 23 = .ok (.iload_n 2, 1) := by decide +kernel
theorem dX0_yealms_24 : decode cX0_yealms 24 = .ok (.iload_n 3, 1) := by decide +kernel
theorem dX0_yealms_25 : decode cX0_yealms 25 = .ok (.invokevirtual 51, 3) := by decide +kernel
theorem dX0_yealms_28 : decode cX0_yealms 28 = .ok (.ifCond .eq 6, 3) := by decide +kernel
theorem dX0_yealms_31 : decode cX0_yealms 31 = .ok (.iinc 1 1, 3) := by decide +kernel
theorem dX0_yealms_34 : decode cX0_yealms 34 = .ok (.iinc 3 1, 3) := by decide +kernel
theorem dX0_yealms_37 : decode cX0_yealms 37 = .ok (.goto (-23), 3) := by decide +kernel
theorem dX0_yealms_40 : decode cX0_yealms 40 = .ok (.iinc 2 1, 3) := by decide +kernel
theorem dX0_yealms_43 : decode cX0_yealms 43 = .ok (.goto (-39), 3) := by decide +kernel
theorem dX0_yealms_46 : decode cX0_yealms 46 = .ok (.iload_n 1, 1) := by decide +kernel
theorem dX0_yealms_47 : decode cX0_yealms 47 = .ok (.ireturn, 1) := by decide +kernel
set_option maxRecDepth 20000 in
theorem ggX0_thicknessInAll_X0_thicknessOver : GoodIn wsX0_thicknessInAll wsX0_thicknessOver := goodIn_r _ [6, 7, 8, 9, 10, 5, 11, 1, 12, 13, 14, 15, 16, 17, 18, 19, 20, 21, 22] (by decide +kernel) (by decide +kernel)
set_option maxRecDepth 20000 in
theorem gX0_thicknessInAll_X0_thicknessOver : GoodIn wsX0_thicknessInAll (wsV RX0 88 RX0 yX0_thicknessOver wsX0_thicknessOver) := goodIn_app (goodIn_of _ (by decide +kernel)) ggX0_thicknessInAll_X0_thicknessOver
theorem dX0_thicknessInAll_0 : decode cX0_thicknessInAll 0 = .ok (.iconst 0, 1) := by decide +kernel
theorem dX0_thicknessInAll_1 : decode cX0_thicknessInAll 1 = .ok (.istore_n 1, 1) := by decide +kernel
theorem dX0_thicknessInAll_2 : decode cX0_thicknessInAll 2 = .ok (.iconst 0, 1) := by decide +kernel
theorem dX0_thicknessInAll_3 : decode cX0_thicknessInAll 3 = .ok (.istore_n 2, 1) := by decide +kernel
theorem dX0_thicknessInAll_4 : decode cX0_thicknessInAll 4 = .ok (.iload_n 2, 1) := by decide +kernel
theorem dX0_thicknessInAll_5 : decode cX0_thicknessInAll 5 = .ok (.aload_n 0, 1) := by decide +kernel
theorem dX0_thicknessInAll_6 : decode cX0_thicknessInAll 6 = .ok (.getfield 24, 3) := by decide +kernel
theorem dX0_thicknessInAll_9 : decode cX0_thicknessInAll 9 = .ok (.if_icmp .ge 17, 3) := by decide +kernel
theorem dX0_thicknessInAll_12 : decode cX0_thicknessInAll 12 = .ok (.iload_n 1, 1) := by decide +kernel
theorem dX0_thicknessInAll_13 : decode cX0_thicknessInAll 13 = .ok (.aload_n 0, 1) := by decide +kernel
theorem dX0_thicknessInAll_14 : decode cX0_thicknessInAll 14 = .ok (.iload_n 2, 1) := by decide +kernel
theorem dX0_thicknessInAll_15 : decode cX0_thicknessInAll 15 = .ok (.invokevirtual 88, 3) := by decide +kernel
theorem dX0_thicknessInAll_18 : decode cX0_thicknessInAll 18 = .ok (.iadd, 1) := by decide +kernel
theorem dX0_thicknessInAll_19 : decode cX0_thicknessInAll 19 = .ok (.istore_n 1, 1) := by decide +kernel
theorem dX0_thicknessInAll_20 : decode cX0_thicknessInAll 20 = .ok (.iinc 2 1, 3) := by decide +kernel
theorem dX0_thicknessInAll_23 : decode cX0_thicknessInAll 23 = .ok (.goto (-19), 3) := by decide +kernel
theorem dX0_thicknessInAll_26 : decode cX0_thicknessInAll 26 = .ok (.iload_n 1, 1) := by decide +kernel
theorem dX0_thicknessInAll_27 : decode cX0_thicknessInAll 27 = .ok (.ireturn, 1) := by decide +kernel
set_option maxRecDepth 20000 in
theorem ggX0_thicknessOver_X0_thicknessAt : GoodIn wsX0_thicknessOver wsX0_thicknessAt := goodIn_r _ [6, 1, 7, 8, 9, 10, 11, 12, 13, 14, 15, 16, 17, 18] (by decide +kernel) (by decide +kernel)
set_option maxRecDepth 20000 in
theorem gX0_thicknessOver_X0_thicknessAt : GoodIn wsX0_thicknessOver (wsV RX0 47 RX0 yX0_thicknessAt wsX0_thicknessAt) := goodIn_app (goodIn_of _ (by decide +kernel)) ggX0_thicknessOver_X0_thicknessAt
theorem dX0_thicknessOver_0 : decode cX0_thicknessOver 0 = .ok (.iconst 0, 1) := by decide +kernel
theorem dX0_thicknessOver_1 : decode cX0_thicknessOver 1 = .ok (.istore_n 2, 1) := by decide +kernel
theorem dX0_thicknessOver_2 : decode cX0_thicknessOver 2 = .ok (.iconst 0, 1) := by decide +kernel
theorem dX0_thicknessOver_3 : decode cX0_thicknessOver 3 = .ok (.istore_n 3, 1) := by decide +kernel
theorem dX0_thicknessOver_4 : decode cX0_thicknessOver 4 = .ok (.iload_n 3, 1) := by decide +kernel
theorem dX0_thicknessOver_5 : decode cX0_thicknessOver 5 = .ok (.aload_n 0, 1) := by decide +kernel
theorem dX0_thicknessOver_6 : decode cX0_thicknessOver 6 = .ok (.getfield 28, 3) := by decide +kernel
theorem dX0_thicknessOver_9 : decode cX0_thicknessOver 9 = .ok (.if_icmp .ge 18, 3) := by decide +kernel
theorem dX0_thicknessOver_12 : decode cX0_thicknessOver 12 = .ok (.iload_n 2, 1) := by decide +kernel
theorem dX0_thicknessOver_13 : decode cX0_thicknessOver 13 = .ok (.aload_n 0, 1) := by decide +kernel
theorem dX0_thicknessOver_14 : decode cX0_thicknessOver 14 = .ok (.iload_n 3, 1) := by decide +kernel
theorem dX0_thicknessOver_15 : decode cX0_thicknessOver 15 = .ok (.iload_n 1, 1) := by decide +kernel
theorem dX0_thicknessOver_16 : decode cX0_thicknessOver 16 = .ok (.invokevirtual 47, 3) := by decide +kernel
theorem dX0_thicknessOver_19 : decode cX0_thicknessOver 19 = .ok (.iadd, 1) := by decide +kernel
theorem dX0_thicknessOver_20 : decode cX0_thicknessOver 20 = .ok (.istore_n 2, 1) := by decide +kernel
theorem dX0_thicknessOver_21 : decode cX0_thicknessOver 21 = .ok (.iinc 3 1, 3) := by decide +kernel
theorem dX0_thicknessOver_24 : decode cX0_thicknessOver 24 = .ok (.goto (-20), 3) := by decide +kernel
theorem dX0_thicknessOver_27 : decode cX0_thicknessOver 27 = .ok (.iload_n 2, 1) := by decide +kernel
theorem dX0_thicknessOver_28 : decode cX0_thicknessOver 28 = .ok (.ireturn, 1) := by decide +kernel
set_option maxRecDepth 20000 in
theorem ggX0_leaks_X0_thicknessOver : GoodIn wsX0_leaks wsX0_thicknessOver := goodIn_r _ [7, 2, 8, 9, 10, 6, 11, 1, 12, 17, 18, 19, 20, 21, 22, 23, 24, 25, 26] (by decide +kernel) (by decide +kernel)
set_option maxRecDepth 20000 in
theorem gX0_leaks_X0_thicknessOver : GoodIn wsX0_leaks (wsV RX0 88 RX0 yX0_thicknessOver wsX0_thicknessOver) := goodIn_app (goodIn_of _ (by decide +kernel)) ggX0_leaks_X0_thicknessOver
set_option maxRecDepth 20000 in
theorem ggX0_leaks_X0_hasYealm : GoodIn wsX0_leaks wsX0_hasYealm := goodIn_r _ [16, 8, 9, 10, 6, 11, 2, 1, 12, 17, 18, 19, 20, 21, 22, 23, 24, 25, 26] (by decide +kernel) (by decide +kernel)
set_option maxRecDepth 20000 in
theorem gX0_leaks_X0_hasYealm : GoodIn wsX0_leaks (wsV RX0 51 RX0 yX0_hasYealm wsX0_hasYealm) := goodIn_app (goodIn_of _ (by decide +kernel)) ggX0_leaks_X0_hasYealm
theorem dX0_leaks_0 : decode cX0_leaks 0 = .ok (.iconst 0, 1) := by decide +kernel
theorem dX0_leaks_1 : decode cX0_leaks 1 = .ok (.istore_n 1, 1) := by decide +kernel
theorem dX0_leaks_2 : decode cX0_leaks 2 = .ok (.iconst 0, 1) := by decide +kernel
theorem dX0_leaks_3 : decode cX0_leaks 3 = .ok (.istore_n 2, 1) := by decide +kernel
theorem dX0_leaks_4 : decode cX0_leaks 4 = .ok (.iload_n 2, 1) := by decide +kernel
theorem dX0_leaks_5 : decode cX0_leaks 5 = .ok (.aload_n 0, 1) := by decide +kernel
theorem dX0_leaks_6 : decode cX0_leaks 6 = .ok (.getfield 24, 3) := by decide +kernel
theorem dX0_leaks_9 : decode cX0_leaks 9 = .ok (.if_icmp .ge 41, 3) := by decide +kernel
theorem dX0_leaks_12 : decode cX0_leaks 12 = .ok (.aload_n 0, 1) := by decide +kernel
theorem dX0_leaks_13 : decode cX0_leaks 13 = .ok (.iload_n 2, 1) := by decide +kernel
theorem dX0_leaks_14 : decode cX0_leaks 14 = .ok (.invokevirtual 88, 3) := by decide +kernel
theorem dX0_leaks_17 : decode cX0_leaks 17 = .ok (.bipush 8, 2) := by decide +kernel
theorem dX0_leaks_19 : decode cX0_leaks 19 = .ok (.aload_n 0, 1) := by decide +kernel
theorem dX0_leaks_20 : decode cX0_leaks 20 = .ok (.getfield 28, 3) := by decide +kernel
theorem dX0_leaks_23 : decode cX0_leaks 23 = .ok (.imul, 1) := by decide +kernel
theorem dX0_leaks_24 : decode cX0_leaks 24 = .ok (.if_icmp .lt 17, 3) := by decide +kernel
theorem dX0_leaks_27 : decode cX0_leaks 27 = .ok (.aload_n 0, 1) := by decide +kernel
theorem dX0_leaks_28 : decode cX0_leaks 28 = .ok (.aload_n 0, 1) := by decide +kernel
theorem dX0_leaks_29 : decode cX0_leaks 29 = .ok (.getfield 28, 3) := by decide +kernel
theorem dX0_leaks_32 : decode cX0_leaks 32 = .ok (.iconst 1, 1) := by decide +kernel
theorem dX0_leaks_33 : decode cX0_leaks 33 = .ok (.isub, 1) := by decide +kernel
theorem dX0_leaks_34 : decode cX0_leaks 34 = .ok (.iload_n 2, 1) := by decide +kernel
theorem dX0_leaks_35 : decode cX0_leaks 35 = .ok (.invokevirtual 51, 3) := by decide +kernel
theorem dX0_leaks_38 : decode cX0_leaks 38 = .ok (.ifCond .ne 6, 3) := by decide +kernel
theorem dX0_leaks_41 : decode cX0_leaks 41 = .ok (.iinc 1 1, 3) := by decide +kernel
theorem dX0_leaks_44 : decode cX0_leaks 44 = .ok (.iinc 2 1, 3) := by decide +kernel
theorem dX0_leaks_47 : decode cX0_leaks 47 = .ok (.goto (-43), 3) := by decide +kernel
theorem dX0_leaks_50 : decode cX0_leaks 50 = .ok (.iload_n 1, 1) := by decide +kernel
theorem dX0_leaks_51 : decode cX0_leaks 51 = .ok (.ireturn, 1) := by decide +kernel
set_option maxRecDepth 20000 in
theorem ggX0_liveMonth_X0_liveMonthAt : GoodIn wsX0_liveMonth wsX0_liveMonthAt := goodIn_r _ [6, 7, 8, 9, 10, 11, 5, 12, 13, 14, 15, 16, 17, 18, 19, 20, 21, 22, 23, 24, 25, 26, 1, 27, 28, 29, 30, 31, 32, 33, 34, 35, 36, 37, 38, 39, 40, 41, 42, 43, 44, 45, 46, 47, 48, 49, 50, 51, 52, 53, 54, 55, 56, 57, 58, 59, 60, 61, 62, 63, 64, 65, 66, 71, 72, 73, 74, 75, 76, 77, 78, 79, 80] (by decide +kernel) (by decide +kernel)
set_option maxRecDepth 20000 in
theorem gX0_liveMonth_X0_liveMonthAt : GoodIn wsX0_liveMonth (wsV RX0 92 RX0 yX0_liveMonthAt wsX0_liveMonthAt) := goodIn_app (goodIn_of _ (by decide +kernel)) ggX0_liveMonth_X0_liveMonthAt
set_option maxRecDepth 20000 in
theorem ggX0_liveMonth_X0_wearRidge : GoodIn wsX0_liveMonth wsX0_wearRidge := goodIn_r _ [70, 62, 15, 16, 17, 18, 71, 72, 73, 74, 75, 76, 77, 78, 79, 80] (by decide +kernel) (by decide +kernel)
set_option maxRecDepth 20000 in
theorem gX0_liveMonth_X0_wearRidge : GoodIn wsX0_liveMonth (wsV RX0 96 RX0 yX0_wearRidge wsX0_wearRidge) := goodIn_app (goodIn_of _ (by decide +kernel)) ggX0_liveMonth_X0_wearRidge
theorem dX0_liveMonth_0 : decode cX0_liveMonth 0 = .ok (.iconst 0, 1) := by decide +kernel
theorem dX0_liveMonth_1 : decode cX0_liveMonth 1 = .ok (.istore_n 3, 1) := by decide +kernel
theorem dX0_liveMonth_2 : decode cX0_liveMonth 2 = .ok (.iconst 0, 1) := by decide +kernel
theorem dX0_liveMonth_3 : decode cX0_liveMonth 3 = .ok (.istore 4, 2) := by decide +kernel
theorem dX0_liveMonth_5 : decode cX0_liveMonth 5 = .ok (.iload 4, 2) := by decide +kernel
theorem dX0_liveMonth_7 : decode cX0_liveMonth 7 = .ok (.aload_n 0, 1) := by decide +kernel
theorem dX0_liveMonth_8 : decode cX0_liveMonth 8 = .ok (.getfield 24, 3) := by decide +kernel
theorem dX0_liveMonth_11 : decode cX0_liveMonth 11 = .ok (.if_icmp .ge 20, 3) := by decide +kernel
theorem dX0_liveMonth_14 : decode cX0_liveMonth 14 = .ok (.iload_n 3, 1) := by decide +kernel
theorem dX0_liveMonth_15 : decode cX0_liveMonth 15 = .ok (.aload_n 0, 1) := by decide +kernel
theorem dX0_liveMonth_16 : decode cX0_liveMonth 16 = .ok (.iload 4, 2) := by decide +kernel
theorem dX0_liveMonth_18 : decode cX0_liveMonth 18 = .ok (.iload_n 1, 1) := by decide +kernel
theorem dX0_liveMonth_19 : decode cX0_liveMonth 19 = .ok (.iload_n 2, 1) := by decide +kernel
theorem dX0_liveMonth_20 : decode cX0_liveMonth 20 = .ok (.invokevirtual 92, 3) := by decide +kernel
theorem dX0_liveMonth_23 : decode cX0_liveMonth 23 = .ok (.iadd, 1) := by decide +kernel
theorem dX0_liveMonth_24 : decode cX0_liveMonth 24 = .ok (.istore_n 3, 1) := by decide +kernel
theorem dX0_liveMonth_25 : decode cX0_liveMonth 25 = .ok (.iinc 4 1, 3) := by decide +kernel
theorem dX0_liveMonth_28 : decode cX0_liveMonth 28 = .ok (.goto (-23), 3) := by decide +kernel
theorem dX0_liveMonth_31 : decode cX0_liveMonth 31 = .ok (.aload_n 0, 1) := by decide +kernel
theorem dX0_liveMonth_32 : decode cX0_liveMonth 32 = .ok (.iload_n 2, 1) := by decide +kernel
theorem dX0_liveMonth_33 : decode cX0_liveMonth 33 = .ok (.invokevirtual 96, 3) := by decide +kernel
theorem dX0_liveMonth_36 : decode cX0_liveMonth 36 = .ok (.iload_n 3, 1) := by decide +kernel
theorem dX0_liveMonth_37 : decode cX0_liveMonth 37 = .ok (.ireturn, 1) := by decide +kernel
set_option maxRecDepth 20000 in
theorem ggX0_liveMonthAt_X0_rainOn : GoodIn wsX0_liveMonthAt wsX0_rainOn := goodIn_r _ [7, 8, 9, 10, 11, 12, 13, 14, 15, 16, 6, 17, 18, 19, 20, 21, 22, 23, 24, 25, 26, 27, 28, 29, 30, 31, 32, 33, 34, 35, 36, 37, 38, 39, 40, 41, 63, 64, 65, 66, 67, 68, 69, 70, 71, 72] (by decide +kernel) (by decide +kernel)
set_option maxRecDepth 20000 in
theorem gX0_liveMonthAt_X0_rainOn : GoodIn wsX0_liveMonthAt (wsV RX0 100 RX0 yX0_rainOn wsX0_rainOn) := goodIn_app (goodIn_of _ (by decide +kernel)) ggX0_liveMonthAt_X0_rainOn
set_option maxRecDepth 20000 in
theorem ggX0_liveMonthAt_X0_growMoss : GoodIn wsX0_liveMonthAt wsX0_growMoss := goodIn_r _ [45, 32, 8, 31, 46, 47, 12, 48, 14, 15, 16, 6, 17, 18, 19, 20, 21, 22, 9, 23, 24, 25, 26, 63, 64, 65, 66, 67, 68, 69, 70, 71, 72] (by decide +kernel) (by decide +kernel)
set_option maxRecDepth 20000 in
theorem gX0_liveMonthAt_X0_growMoss : GoodIn wsX0_liveMonthAt (wsV RX0 103 RX0 yX0_growMoss wsX0_growMoss) := goodIn_app (goodIn_of _ (by decide +kernel)) ggX0_liveMonthAt_X0_growMoss
set_option maxRecDepth 20000 in
theorem ggX0_liveMonthAt_X0_stormOn : GoodIn wsX0_liveMonthAt wsX0_stormOn := goodIn_r _ [52, 8, 9, 53, 54, 55, 6, 56, 57, 58, 14, 15, 16, 17, 18, 19, 20, 21, 22, 23, 24, 25, 26, 34, 35, 36, 37, 38, 39, 40, 41, 59, 60, 61, 62, 63, 64, 65, 66, 67, 68, 69, 70, 71, 72] (by decide +kernel) (by decide +kernel)
set_option maxRecDepth 20000 in
theorem gX0_liveMonthAt_X0_stormOn : GoodIn wsX0_liveMonthAt (wsV RX0 107 RX0 yX0_stormOn wsX0_stormOn) := goodIn_app (goodIn_of _ (by decide +kernel)) ggX0_liveMonthAt_X0_stormOn
theorem dX0_liveMonthAt_0 : decode cX0_liveMonthAt 0 = .ok (.aload_n 0, 1) := by decide +kernel
theorem dX0_liveMonthAt_1 : decode cX0_liveMonthAt 1 = .ok (.iload_n 1, 1) := by decide +kernel
theorem dX0_liveMonthAt_2 : decode cX0_liveMonthAt 2 = .ok (.iload_n 2, 1) := by decide +kernel
theorem dX0_liveMonthAt_3 : decode cX0_liveMonthAt 3 = .ok (.invokevirtual 100, 3) := by decide +kernel
theorem dX0_liveMonthAt_6 : decode cX0_liveMonthAt 6 = .ok (.istore 4, 2) := by decide +kernel
theorem dX0_liveMonthAt_8 : decode cX0_liveMonthAt 8 = .ok (.aload_n 0, 1) := by decide +kernel
theorem dX0_liveMonthAt_9 : decode cX0_liveMonthAt 9 = .ok (.iload_n 1, 1) := by decide +kernel
theorem dX0_liveMonthAt_10 : decode cX0_liveMonthAt 10 = .ok (.iload_n 2, 1) := by decide +kernel
theorem dX0_liveMonthAt_11 : decode cX0_liveMonthAt 11 = .ok (.invokevirtual 103, 3) := by decide +kernel
theorem dX0_liveMonthAt_14 : decode cX0_liveMonthAt 14 = .ok (.aload_n 0, 1) := by decide +kernel
theorem dX0_liveMonthAt_15 : decode cX0_liveMonthAt 15 = .ok (.iload_n 1, 1) := by decide +kernel
theorem dX0_liveMonthAt_16 : decode cX0_liveMonthAt 16 = .ok (.iload_n 3, 1) := by decide +kernel
theorem dX0_liveMonthAt_17 : decode cX0_liveMonthAt 17 = .ok (.invokevirtual 107, 3) := by decide +kernel
theorem dX0_liveMonthAt_20 : decode cX0_liveMonthAt 20 = .ok (.istore 5, 2) := by decide +kernel
theorem dX0_liveMonthAt_22 : decode cX0_liveMonthAt 22 = .ok (.aload_n 0, 1) := by decide +kernel
theorem dX0_liveMonthAt_23 : decode cX0_liveMonthAt 23 = .ok (.dup, 1) := by decide +kernel
theorem dX0_liveMonthAt_24 : decode cX0_liveMonthAt 24 = .ok (.getfield 85, 3) := by decide +kernel
theorem dX0_liveMonthAt_27 : decode cX0_liveMonthAt 27 = .ok (.iload 4, 2) := by decide +kernel
theorem dX0_liveMonthAt_29 : decode cX0_liveMonthAt 29 = .ok (.iadd, 1) := by decide +kernel
theorem dX0_liveMonthAt_30 : decode cX0_liveMonthAt 30 = .ok (.putfield 85, 3) := by decide +kernel
theorem dX0_liveMonthAt_33 : decode cX0_liveMonthAt 33 = .ok (.aload_n 0, 1) := by decide +kernel
theorem dX0_liveMonthAt_34 : decode cX0_liveMonthAt 34 = .ok (.dup, 1) := by decide +kernel
theorem dX0_liveMonthAt_35 : decode cX0_liveMonthAt 35 = .ok (.getfield 82, 3) := by decide +kernel
theorem dX0_liveMonthAt_38 : decode cX0_liveMonthAt 38 = .ok (.iload 5, 2) := by decide +kernel
theorem dX0_liveMonthAt_40 : decode cX0_liveMonthAt 40 = .ok (.iadd, 1) := by decide +kernel
theorem dX0_liveMonthAt_41 : decode cX0_liveMonthAt 41 = .ok (.putfield 82, 3) := by decide +kernel
theorem dX0_liveMonthAt_44 : decode cX0_liveMonthAt 44 = .ok (.iload 4, 2) := by decide +kernel
theorem dX0_liveMonthAt_46 : decode cX0_liveMonthAt 46 = .ok (.iload 5, 2) := by decide +kernel
theorem dX0_liveMonthAt_48 : decode cX0_liveMonthAt 48 = .ok (.iadd, 1) := by decide +kernel
theorem dX0_liveMonthAt_49 : decode cX0_liveMonthAt 49 = .ok (.ireturn, 1) := by decide +kernel
theorem dX0_wearRidge_0 : decode cX0_wearRidge 0 = .ok (.aload_n 0, 1) := by decide +kernel
theorem dX0_wearRidge_1 : decode cX0_wearRidge 1 = .ok (.aload_n 0, 1) := by decide +kernel
theorem dX0_wearRidge_2 : decode cX0_wearRidge 2 = .ok (.getfield 34, 3) := by decide +kernel
theorem dX0_wearRidge_5 : decode cX0_wearRidge 5 = .ok (.iload_n 1, 1) := by decide +kernel
theorem dX0_wearRidge_6 : decode cX0_wearRidge 6 = .ok (.isub, 1) := by decide +kernel
theorem dX0_wearRidge_7 : decode cX0_wearRidge 7 = .ok (.iconst 1, 1) := by decide +kernel
theorem dX0_wearRidge_8 : decode cX0_wearRidge 8 = .ok (.isub, 1) := by decide +kernel
theorem dX0_wearRidge_9 : decode cX0_wearRidge 9 = .ok (.iconst 0, 1) := by decide +kernel
theorem dX0_wearRidge_10 : decode cX0_wearRidge 10 = .ok (.invokestatic 110, 3) := by decide +kernel
theorem dX0_wearRidge_13 : decode cX0_wearRidge 13 = .ok (.putfield 34, 3) := by decide +kernel
theorem dX0_wearRidge_16 : decode cX0_wearRidge 16 = .ok (.return_, 1) := by decide +kernel
set_option maxRecDepth 20000 in
theorem ggX0_rainOn_X0_hasYealm : GoodIn wsX0_rainOn wsX0_hasYealm := goodIn_r _ [11, 12, 13, 14, 10, 15, 1, 16, 2, 36, 37, 38, 39, 40, 41, 42, 43, 44, 45] (by decide +kernel) (by decide +kernel)
set_option maxRecDepth 20000 in
theorem gX0_rainOn_X0_hasYealm : GoodIn wsX0_rainOn (wsV RX0 51 RX0 yX0_hasYealm wsX0_hasYealm) := goodIn_app (goodIn_of _ (by decide +kernel)) ggX0_rainOn_X0_hasYealm
set_option maxRecDepth 20000 in
theorem ggX0_rainOn_X0_numberOf : GoodIn wsX0_rainOn wsX0_numberOf := goodIn_r _ [20, 16, 36, 37, 38, 39, 40, 41, 42, 43, 44, 45] (by decide +kernel) (by decide +kernel)
set_option maxRecDepth 20000 in
theorem gX0_rainOn_X0_numberOf : GoodIn wsX0_rainOn (wsV RX0 61 RX0 yX0_numberOf wsX0_numberOf) := goodIn_app (goodIn_of _ (by decide +kernel)) ggX0_rainOn_X0_numberOf
set_option maxRecDepth 20000 in
theorem ggX0_rainOn_X0_wearBy : GoodIn wsX0_rainOn wsX0_wearBy := goodIn_r _ [24, 25, 26, 27, 17, 18, 19, 10, 20, 16, 28, 29, 30, 31, 32, 33, 34, 35, 1, 12, 13, 14, 15, 2, 36, 37, 38, 39, 40, 41, 42, 43, 44, 45] (by decide +kernel) (by decide +kernel)
set_option maxRecDepth 20000 in
theorem gX0_rainOn_X0_wearBy : GoodIn wsX0_rainOn (wsV RX0 113 RX0 yX0_wearBy wsX0_wearBy) := goodIn_app (goodIn_of _ (by decide +kernel)) ggX0_rainOn_X0_wearBy
theorem dX0_rainOn_0 : decode cX0_rainOn 0 = .ok (.iconst 0, 1) := by decide +kernel
theorem dX0_rainOn_1 : decode cX0_rainOn 1 = .ok (.istore_n 3, 1) := by decide +kernel
theorem dX0_rainOn_2 : decode cX0_rainOn 2 = .ok (.iconst 0, 1) := by decide +kernel
theorem dX0_rainOn_3 : decode cX0_rainOn 3 = .ok (.istore 4, 2) := by decide +kernel
theorem dX0_rainOn_5 : decode cX0_rainOn 5 = .ok (.iload 4, 2) := by decide +kernel
theorem dX0_rainOn_7 : decode cX0_rainOn 7 = .ok (.aload_n 0, 1) := by decide +kernel
theorem dX0_rainOn_8 : decode cX0_rainOn 8 = .ok (.getfield 28, 3) := by decide +kernel
theorem dX0_rainOn_11 : decode cX0_rainOn 11 = .ok (.if_icmp .ge 68, 3) := by decide +kernel
theorem dX0_rainOn_14 : decode cX0_rainOn 14 = .ok (.aload_n 0, 1) := by decide +kernel
theorem dX0_rainOn_15 : decode cX0_rainOn 15 = .ok (.iload 4, 2) := by decide +kernel
theorem dX0_rainOn_17 : decode cX0_rainOn 17 = .ok (.iload_n 1, 1) := by decide +kernel
theorem dX0_rainOn_18 : decode cX0_rainOn 18 = .ok (.invokevirtual 51, 3) := by decide +kernel
theorem dX0_rainOn_21 : decode cX0_rainOn 21 = .ok (.ifCond .eq 52, 3) := by decide +kernel
theorem dX0_rainOn_24 : decode cX0_rainOn 24 = .ok (.aload_n 0, 1) := by decide +kernel
theorem dX0_rainOn_25 : decode cX0_rainOn 25 = .ok (.iload 4, 2) := by decide +kernel
theorem dX0_rainOn_27 : decode cX0_rainOn 27 = .ok (.iload_n 1, 1) := by decide +kernel
theorem dX0_rainOn_28 : decode cX0_rainOn 28 = .ok (.invokevirtual 61, 3) := by decide +kernel
theorem dX0_rainOn_31 : decode cX0_rainOn 31 = .ok (.istore 5, 2) := by decide +kernel
theorem dX0_rainOn_33 : decode cX0_rainOn 33 = .ok (.aload_n 0, 1) := by decide +kernel
theorem dX0_rainOn_34 : decode cX0_rainOn 34 = .ok (.getfield 15, 3) := by decide +kernel
theorem dX0_rainOn_37 : decode cX0_rainOn 37 = .ok (.iload 5, 2) := by decide +kernel
theorem dX0_rainOn_39 : decode cX0_rainOn 39 = .ok (.aload_n 0, 1) := by decide +kernel
theorem dX0_rainOn_40 : decode cX0_rainOn 40 = .ok (.getfield 15, 3) := by decide +kernel
theorem dX0_rainOn_43 : decode cX0_rainOn 43 = .ok (.iload 5, 2) := by decide +kernel
theorem dX0_rainOn_45 : decode cX0_rainOn 45 = .ok (.iaload, 1) := by decide +kernel
theorem dX0_rainOn_46 : decode cX0_rainOn 46 = .ok (.aload_n 0, 1) := by decide +kernel
theorem dX0_rainOn_47 : decode cX0_rainOn 47 = .ok (.iload_n 2, 1) := by decide +kernel
theorem dX0_rainOn_48 : decode cX0_rainOn 48 = .ok (.iload 4, 2) := by decide +kernel
theorem dX0_rainOn_50 : decode cX0_rainOn 50 = .ok (.iload_n 1, 1) := by decide +kernel
theorem dX0_rainOn_51 : decode cX0_rainOn 51 = .ok (.invokevirtual 113, 3) := by decide +kernel
theorem dX0_rainOn_54 : decode cX0_rainOn 54 = .ok (.isub, 1) := by decide +kernel
theorem dX0_rainOn_55 : decode cX0_rainOn 55 = .ok (.iconst 0, 1) := by decide +kernel
theorem dX0_rainOn_56 : decode cX0_rainOn 56 = .ok (.invokestatic 110, 3) := by decide +kernel
theorem dX0_rainOn_59 : decode cX0_rainOn 59 = .ok (.iastore, 1) := by decide +kernel
theorem dX0_rainOn_60 : decode cX0_rainOn 60 = .ok (.aload_n 0, 1) := by decide +kernel
theorem dX0_rainOn_61 : decode cX0_rainOn 61 = .ok (.getfield 15, 3) := by decide +kernel
theorem dX0_rainOn_64 : decode cX0_rainOn 64 = .ok (.iload 5, 2) := by decide +kernel
theorem dX0_rainOn_66 : decode cX0_rainOn 66 = .ok (.iaload, 1) := by decide +kernel
theorem dX0_rainOn_67 : decode cX0_rainOn 67 = .ok (.ifCond .ne 6, 3) := by decide +kernel
theorem dX0_rainOn_70 : decode cX0_rainOn 70 = .ok (.iinc 3 1, 3) := by decide +kernel
theorem dX0_rainOn_73 : decode cX0_rainOn 73 = .ok (.iinc 4 1, 3) := by decide +kernel
theorem dX0_rainOn_76 : decode cX0_rainOn 76 = .ok (.goto (-71), 3) := by decide +kernel
theorem dX0_rainOn_79 : decode cX0_rainOn 79 = .ok (.iload_n 3, 1) := by decide +kernel
theorem dX0_rainOn_80 : decode cX0_rainOn 80 = .ok (.ireturn, 1) := by decide +kernel
set_option maxRecDepth 20000 in
theorem ggX0_wearBy_X0_numberOf : GoodIn wsX0_wearBy wsX0_numberOf := goodIn_r _ [8, 9, 24, 25, 26, 27, 28, 29, 30, 31, 32, 33] (by decide +kernel) (by decide +kernel)
set_option maxRecDepth 20000 in
theorem gX0_wearBy_X0_numberOf : GoodIn wsX0_wearBy (wsV RX0 61 RX0 yX0_numberOf wsX0_numberOf) := goodIn_app (goodIn_of _ (by decide +kernel)) ggX0_wearBy_X0_numberOf
set_option maxRecDepth 20000 in
theorem ggX0_wearBy_X0_isBare : GoodIn wsX0_wearBy wsX0_isBare := goodIn_r _ [13, 14, 15, 16, 7, 17, 18, 19, 20, 21, 22, 9, 23, 24, 25, 26, 27, 28, 29, 30, 31, 32, 33] (by decide +kernel) (by decide +kernel)
set_option maxRecDepth 20000 in
theorem gX0_wearBy_X0_isBare : GoodIn wsX0_wearBy (wsV RX0 69 RX0 yX0_isBare wsX0_isBare) := goodIn_app (goodIn_of _ (by decide +kernel)) ggX0_wearBy_X0_isBare
theorem dX0_wearBy_0 : decode cX0_wearBy 0 = .ok (.aload_n 0, 1) := by decide +kernel
theorem dX0_wearBy_1 : decode cX0_wearBy 1 = .ok (.iload_n 2, 1) := by decide +kernel
theorem dX0_wearBy_2 : decode cX0_wearBy 2 = .ok (.iload_n 3, 1) := by decide +kernel
theorem dX0_wearBy_3 : decode cX0_wearBy 3 = .ok (.invokevirtual 61, 3) := by decide +kernel
theorem dX0_wearBy_6 : decode cX0_wearBy 6 = .ok (.istore 4, 2) := by decide +kernel
theorem dX0_wearBy_8 : decode cX0_wearBy 8 = .ok (.iload_n 1, 1) := by decide +kernel
theorem dX0_wearBy_9 : decode cX0_wearBy 9 = .ok (.aload_n 0, 1) := by decide +kernel
theorem dX0_wearBy_10 : decode cX0_wearBy 10 = .ok (.getfield 21, 3) := by decide +kernel
theorem dX0_wearBy_13 : decode cX0_wearBy 13 = .ok (.iload 4, 2) := by decide +kernel
theorem dX0_wearBy_15 : decode cX0_wearBy 15 = .ok (.iaload, 1) := by decide +kernel
theorem dX0_wearBy_16 : decode cX0_wearBy 16 = .ok (.iconst 3, 1) := by decide +kernel
theorem dX0_wearBy_17 : decode cX0_wearBy 17 = .ok (.idiv, 1) := by decide +kernel
theorem dX0_wearBy_18 : decode cX0_wearBy 18 = .ok (.iadd, 1) := by decide +kernel
theorem dX0_wearBy_19 : decode cX0_wearBy 19 = .ok (.aload_n 0, 1) := by decide +kernel
theorem dX0_wearBy_20 : decode cX0_wearBy 20 = .ok (.iload_n 2, 1) := by decide +kernel
theorem dX0_wearBy_21 : decode cX0_wearBy 21 = .ok (.iload_n 3, 1) := by decide +kernel
theorem dX0_wearBy_22 : decode cX0_wearBy 22 = .ok (.invokevirtual 69, 3) := by decide +kernel
theorem dX0_wearBy_25 : decode cX0_wearBy 25 = .ok (.ifCond .eq 7, 3) := by decide +kernel
theorem dX0_wearBy_28 : decode cX0_wearBy 28 = .ok (.iconst 2, 1) := by decide +kernel
theorem dX0_wearBy_29 : decode cX0_wearBy 29 = .ok (.goto 4, 3) := by decide +kernel
theorem dX0_wearBy_32 : decode cX0_wearBy 32 = .ok (.iconst 0, 1) := by decide +kernel
theorem dX0_wearBy_33 : decode cX0_wearBy 33 = .ok (.iadd, 1) := by decide +kernel
theorem dX0_wearBy_34 : decode cX0_wearBy 34 = .ok (.istore 5, 2) := by decide +kernel
theorem dX0_wearBy_36 : decode cX0_wearBy 36 = .ok (.iload 5, 2) := by decide +kernel
theorem dX0_wearBy_38 : decode cX0_wearBy 38 = .ok (.bipush 70, 2) := by decide +kernel
theorem dX0_wearBy_40 : decode cX0_wearBy 40 = .ok (.aload_n 0, 1) := by decide +kernel
theorem dX0_wearBy_41 : decode cX0_wearBy 41 = .ok (.getfield 31, 3) := by decide +kernel
theorem dX0_wearBy_44 : decode cX0_wearBy 44 = .ok (.isub, 1) := by decide +kernel
theorem dX0_wearBy_45 : decode cX0_wearBy 45 = .ok (.imul, 1) := by decide +kernel
theorem dX0_wearBy_46 : decode cX0_wearBy 46 = .ok (.bipush 100, 2) := by decide +kernel
theorem dX0_wearBy_48 : decode cX0_wearBy 48 = .ok (.idiv, 1) := by decide +kernel
theorem dX0_wearBy_49 : decode cX0_wearBy 49 = .ok (.aload_n 0, 1) := by decide +kernel
theorem dX0_wearBy_50 : decode cX0_wearBy 50 = .ok (.getfield 9, 3) := by decide +kernel
theorem dX0_wearBy_53 : decode cX0_wearBy 53 = .ok (.iload 4, 2) := by decide +kernel
theorem dX0_wearBy_55 : decode cX0_wearBy 55 = .ok (.iaload, 1) := by decide +kernel
theorem dX0_wearBy_56 : decode cX0_wearBy 56 = .ok (.iconst 1, 1) := by decide +kernel
theorem dX0_wearBy_57 : decode cX0_wearBy 57 = .ok (.if_icmp .ne 7, 3) := by decide +kernel
theorem dX0_wearBy_60 : decode cX0_wearBy 60 = .ok (.iconst 1, 1) := by decide +kernel
theorem dX0_wearBy_61 : decode cX0_wearBy 61 = .ok (.goto 4, 3) := by decide +kernel
theorem dX0_wearBy_64 : decode cX0_wearBy 64 = .ok (.iconst 0, 1) := by decide +kernel
theorem dX0_wearBy_65 : decode cX0_wearBy 65 = .ok (.iadd, 1) := by decide +kernel
theorem dX0_wearBy_66 : decode cX0_wearBy 66 = .ok (.ireturn, 1) := by decide +kernel
set_option maxRecDepth 20000 in
theorem ggX0_growMoss_X0_hasYealm : GoodIn wsX0_growMoss wsX0_hasYealm := goodIn_r _ [12, 13, 14, 15, 11, 16, 2, 17, 18, 23, 24, 25, 26, 27, 28, 29, 30, 31, 32] (by decide +kernel) (by decide +kernel)
set_option maxRecDepth 20000 in
theorem gX0_growMoss_X0_hasYealm : GoodIn wsX0_growMoss (wsV RX0 51 RX0 yX0_hasYealm wsX0_hasYealm) := goodIn_app (goodIn_of _ (by decide +kernel)) ggX0_growMoss_X0_hasYealm
set_option maxRecDepth 20000 in
theorem ggX0_growMoss_X0_numberOf : GoodIn wsX0_growMoss wsX0_numberOf := goodIn_r _ [22, 17, 23, 24, 25, 26, 27, 28, 29, 30, 31, 32] (by decide +kernel) (by decide +kernel)
set_option maxRecDepth 20000 in
theorem gX0_growMoss_X0_numberOf : GoodIn wsX0_growMoss (wsV RX0 61 RX0 yX0_numberOf wsX0_numberOf) := goodIn_app (goodIn_of _ (by decide +kernel)) ggX0_growMoss_X0_numberOf
theorem dX0_growMoss_0 : decode cX0_growMoss 0 = .ok (.iload_n 2, 1) := by decide +kernel
theorem dX0_growMoss_1 : decode cX0_growMoss 1 = .ok (.iconst 5, 1) := by decide +kernel
theorem dX0_growMoss_2 : decode cX0_growMoss 2 = .ok (.if_icmp .lt 12, 3) := by decide +kernel
theorem dX0_growMoss_5 : decode cX0_growMoss 5 = .ok (.aload_n 0, 1) := by decide +kernel
theorem dX0_growMoss_6 : decode cX0_growMoss 6 = .ok (.getfield 31, 3) := by decide +kernel
theorem dX0_growMoss_9 : decode cX0_growMoss 9 = .ok (.bipush 45, 2) := by decide +kernel
theorem dX0_growMoss_11 : decode cX0_growMoss 11 = .ok (.if_icmp .lt 4, 3) := by decide +kernel
theorem dX0_growMoss_14 : decode cX0_growMoss 14 = .ok (.return_, 1) := by decide +kernel
theorem dX0_growMoss_15 : decode cX0_growMoss 15 = .ok (.iconst 0, 1) := by decide +kernel
theorem dX0_growMoss_16 : decode cX0_growMoss 16 = .ok (.istore_n 3, 1) := by decide +kernel
theorem dX0_growMoss_17 : decode cX0_growMoss 17 = .ok (.iload_n 3, 1) := by decide +kernel
theorem dX0_growMoss_18 : decode cX0_growMoss 18 = .ok (.aload_n 0, 1) := by decide +kernel
theorem dX0_growMoss_19 : decode cX0_growMoss 19 = .ok (.getfield 28, 3) := by decide +kernel
theorem dX0_growMoss_22 : decode cX0_growMoss 22 = .ok (.if_icmp .ge 47, 3) := by decide +kernel
theorem dX0_growMoss_25 : decode cX0_growMoss 25 = .ok (.aload_n 0, 1) := by decide +kernel
theorem dX0_growMoss_26 : decode cX0_growMoss 26 = .ok (.iload_n 3, 1) := by decide +kernel
theorem dX0_growMoss_27 : decode cX0_growMoss 27 = .ok (.iload_n 1, 1) := by decide +kernel
theorem dX0_growMoss_28 : decode cX0_growMoss 28 = .ok (.invokevirtual 51, 3) := by decide +kernel
theorem dX0_growMoss_31 : decode cX0_growMoss 31 = .ok (.ifCond .eq 32, 3) := by decide +kernel
theorem dX0_growMoss_34 : decode cX0_growMoss 34 = .ok (.aload_n 0, 1) := by decide +kernel
theorem dX0_growMoss_35 : decode cX0_growMoss 35 = .ok (.iload_n 3, 1) := by decide +kernel
theorem dX0_growMoss_36 : decode cX0_growMoss 36 = .ok (.iload_n 1, 1) := by decide +kernel
theorem dX0_growMoss_37 : decode cX0_growMoss 37 = .ok (.invokevirtual 61, 3) := by decide +kernel
theorem dX0_growMoss_40 : decode cX0_growMoss 40 = .ok (.istore 4, 2) := by decide +kernel
theorem dX0_growMoss_42 : decode cX0_growMoss 42 = .ok (.aload_n 0, 1) := by decide +kernel
theorem dX0_growMoss_43 : decode cX0_growMoss 43 = .ok (.getfield 21, 3) := by decide +kernel
theorem dX0_growMoss_46 : decode cX0_growMoss 46 = .ok (.iload 4, 2) := by decide +kernel
theorem dX0_growMoss_48 : decode cX0_growMoss 48 = .ok (.aload_n 0, 1) := by decide +kernel
theorem dX0_growMoss_49 : decode cX0_growMoss 49 = .ok (.getfield 21, 3) := by decide +kernel
theorem dX0_growMoss_52 : decode cX0_growMoss 52 = .ok (.iload 4, 2) := by decide +kernel
theorem dX0_growMoss_54 : decode cX0_growMoss 54 = .ok (.iaload, 1) := by decide +kernel
theorem dX0_growMoss_55 : decode cX0_growMoss 55 = .ok (.iconst 1, 1) := by decide +kernel
theorem dX0_growMoss_56 : decode cX0_growMoss 56 = .ok (.iadd, 1) := by decide +kernel
theorem dX0_growMoss_57 : decode cX0_growMoss 57 = .ok (.bipush 9, 2) := by decide +kernel
theorem dX0_growMoss_59 : decode cX0_growMoss 59 = .ok (.invokestatic 64, 3) := by decide +kernel
theorem dX0_growMoss_62 : decode cX0_growMoss 62 = .ok (.iastore, 1) := by decide +kernel
theorem dX0_growMoss_63 : decode cX0_growMoss 63 = .ok (.iinc 3 1, 3) := by decide +kernel
theorem dX0_growMoss_66 : decode cX0_growMoss 66 = .ok (.goto (-49), 3) := by decide +kernel
theorem dX0_growMoss_69 : decode cX0_growMoss 69 = .ok (.return_, 1) := by decide +kernel
set_option maxRecDepth 20000 in
theorem ggX0_stormOn_X0_wouldTear : GoodIn wsX0_stormOn wsX0_wouldTear := goodIn_r _ [7, 8, 2, 9, 10, 11, 12, 6, 13, 14, 15, 16, 17, 1, 18, 19, 20, 21, 22, 23, 24, 25, 26, 27, 28, 29, 30, 31, 32, 33, 34, 35, 36, 37, 38, 39, 40, 41, 42, 43, 44] (by decide +kernel) (by decide +kernel)
set_option maxRecDepth 20000 in
theorem gX0_stormOn_X0_wouldTear : GoodIn wsX0_stormOn (wsV RX0 116 RX0 yX0_wouldTear wsX0_wouldTear) := goodIn_app (goodIn_of _ (by decide +kernel)) ggX0_stormOn_X0_wouldTear
set_option maxRecDepth 20000 in
theorem ggX0_stormOn_X0_numberOf : GoodIn wsX0_stormOn wsX0_numberOf := goodIn_r _ [22, 18, 35, 36, 37, 38, 39, 40, 41, 42, 43, 44] (by decide +kernel) (by decide +kernel)
set_option maxRecDepth 20000 in
theorem gX0_stormOn_X0_numberOf : GoodIn wsX0_stormOn (wsV RX0 61 RX0 yX0_numberOf wsX0_numberOf) := goodIn_app (goodIn_of _ (by decide +kernel)) ggX0_stormOn_X0_numberOf
theorem dX0_stormOn_0 : decode cX0_stormOn 0 = .ok (.iconst 0, 1) := by decide +kernel
theorem dX0_stormOn_1 : decode cX0_stormOn 1 = .ok (.istore_n 3, 1) := by decide +kernel
theorem dX0_stormOn_2 : decode cX0_stormOn 2 = .ok (.iconst 0, 1) := by decide +kernel
theorem dX0_stormOn_3 : decode cX0_stormOn 3 = .ok (.istore 4, 2) := by decide +kernel
theorem dX0_stormOn_5 : decode cX0_stormOn 5 = .ok (.iload 4, 2) := by decide +kernel
theorem dX0_stormOn_7 : decode cX0_stormOn 7 = .ok (.aload_n 0, 1) := by decide +kernel
theorem dX0_stormOn_8 : decode cX0_stormOn 8 = .ok (.getfield 28, 3) := by decide +kernel
theorem dX0_stormOn_11 : decode cX0_stormOn 11 = .ok (.if_icmp .ge 36, 3) := by decide +kernel
theorem dX0_stormOn_14 : decode cX0_stormOn 14 = .ok (.aload_n 0, 1) := by decide +kernel
theorem dX0_stormOn_15 : decode cX0_stormOn 15 = .ok (.iload 4, 2) := by decide +kernel
theorem dX0_stormOn_17 : decode cX0_stormOn 17 = .ok (.iload_n 1, 1) := by decide +kernel
theorem dX0_stormOn_18 : decode cX0_stormOn 18 = .ok (.iload_n 2, 1) := by decide +kernel
theorem dX0_stormOn_19 : decode cX0_stormOn 19 = .ok (.invokevirtual 116, 3) := by decide +kernel
theorem dX0_stormOn_22 : decode cX0_stormOn 22 = .ok (.ifCond .eq 19, 3) := by decide +kernel
theorem dX0_stormOn_25 : decode cX0_stormOn 25 = .ok (.aload_n 0, 1) := by decide +kernel
theorem dX0_stormOn_26 : decode cX0_stormOn 26 = .ok (.getfield 15, 3) := by decide +kernel
theorem dX0_stormOn_29 : decode cX0_stormOn 29 = .ok (.aload_n 0, 1) := by decide +kernel
theorem dX0_stormOn_30 : decode cX0_stormOn 30 = .ok (.iload 4, 2) := by decide +kernel
theorem dX0_stormOn_32 : decode cX0_stormOn 32 = .ok (.iload_n 1, 1) := by decide +kernel
theorem dX0_stormOn_33 : decode cX0_stormOn 33 = .ok (.invokevirtual 61, 3) := by decide +kernel
theorem dX0_stormOn_36 : decode cX0_stormOn 36 = .ok (.iconst 0, 1) := by decide +kernel
theorem dX0_stormOn_37 : decode cX0_stormOn 37 = .ok (.iastore, 1) := by decide +kernel
theorem dX0_stormOn_38 : decode cX0_stormOn 38 = .ok (.iinc 3 1, 3) := by decide +kernel
theorem dX0_stormOn_41 : decode cX0_stormOn 41 = .ok (.iinc 4 1, 3) := by decide +kernel
theorem dX0_stormOn_44 : decode cX0_stormOn 44 = .ok (.goto (-39), 3) := by decide +kernel
theorem dX0_stormOn_47 : decode cX0_stormOn 47 = .ok (.iload_n 3, 1) := by decide +kernel
theorem dX0_stormOn_48 : decode cX0_stormOn 48 = .ok (.ireturn, 1) := by decide +kernel
set_option maxRecDepth 20000 in
theorem ggX0_wouldTear_X0_hasYealm : GoodIn wsX0_wouldTear wsX0_hasYealm := goodIn_r _ [8, 9, 10, 11, 7, 12, 13, 14, 2, 31, 32, 33, 34, 35, 36, 37, 38, 39, 40] (by decide +kernel) (by decide +kernel)
set_option maxRecDepth 20000 in
theorem gX0_wouldTear_X0_hasYealm : GoodIn wsX0_wouldTear (wsV RX0 51 RX0 yX0_hasYealm wsX0_hasYealm) := goodIn_app (goodIn_of _ (by decide +kernel)) ggX0_wouldTear_X0_hasYealm
set_option maxRecDepth 20000 in
theorem ggX0_wouldTear_X0_numberOf : GoodIn wsX0_wouldTear wsX0_numberOf := goodIn_r _ [18, 14, 31, 32, 33, 34, 35, 36, 37, 38, 39, 40] (by decide +kernel) (by decide +kernel)
set_option maxRecDepth 20000 in
theorem gX0_wouldTear_X0_numberOf : GoodIn wsX0_wouldTear (wsV RX0 61 RX0 yX0_numberOf wsX0_numberOf) := goodIn_app (goodIn_of _ (by decide +kernel)) ggX0_wouldTear_X0_numberOf
set_option maxRecDepth 20000 in
theorem ggX0_wouldTear_X0_isBare : GoodIn wsX0_wouldTear wsX0_isBare := goodIn_r _ [22, 23, 24, 25, 7, 26, 13, 9, 10, 11, 12, 14, 2, 31, 32, 33, 34, 35, 36, 37, 38, 39, 40] (by decide +kernel) (by decide +kernel)
set_option maxRecDepth 20000 in
theorem gX0_wouldTear_X0_isBare : GoodIn wsX0_wouldTear (wsV RX0 69 RX0 yX0_isBare wsX0_isBare) := goodIn_app (goodIn_of _ (by decide +kernel)) ggX0_wouldTear_X0_isBare
set_option maxRecDepth 20000 in
theorem ggX0_wouldTear_X0_isEnd : GoodIn wsX0_wouldTear wsX0_isEnd := goodIn_r _ [30, 14, 31, 32, 33, 34, 35, 36, 37, 38, 39, 40] (by decide +kernel) (by decide +kernel)
set_option maxRecDepth 20000 in
theorem gX0_wouldTear_X0_isEnd : GoodIn wsX0_wouldTear (wsV RX0 120 RX0 yX0_isEnd wsX0_isEnd) := goodIn_app (goodIn_of _ (by decide +kernel)) ggX0_wouldTear_X0_isEnd
set_option maxRecDepth 20000 in
theorem ggX0_wouldTear_X0_isHighest : GoodIn wsX0_wouldTear wsX0_isHighest := goodIn_r _ [26, 13, 31, 32, 33, 34, 35, 36, 37, 38, 39, 40] (by decide +kernel) (by decide +kernel)
set_option maxRecDepth 20000 in
theorem gX0_wouldTear_X0_isHighest : GoodIn wsX0_wouldTear (wsV RX0 55 RX0 yX0_isHighest wsX0_isHighest) := goodIn_app (goodIn_of _ (by decide +kernel)) ggX0_wouldTear_X0_isHighest
theorem dX0_wouldTear_0 : decode cX0_wouldTear 0 = .ok (.aload_n 0, 1) := by decide +kernel
theorem dX0_wouldTear_1 : decode cX0_wouldTear 1 = .ok (.iload_n 1, 1) := by decide +kernel
theorem dX0_wouldTear_2 : decode cX0_wouldTear 2 = .ok (.iload_n 2, 1) := by decide +kernel
theorem dX0_wouldTear_3 : decode cX0_wouldTear 3 = .ok (.invokevirtual 51, 3) := by decide +kernel
theorem dX0_wouldTear_6 : decode cX0_wouldTear 6 = .ok (.ifCond .ne 5, 3) := by decide +kernel
theorem dX0_wouldTear_9 : decode cX0_wouldTear 9 = .ok (.iconst 0, 1) := by decide +kernel
theorem dX0_wouldTear_10 : decode cX0_wouldTear 10 = .ok (.ireturn, 1) := by decide +kernel
theorem dX0_wouldTear_11 : decode cX0_wouldTear 11 = .ok (.aload_n 0, 1) := by decide +kernel
theorem dX0_wouldTear_12 : decode cX0_wouldTear 12 = .ok (.iload_n 1, 1) := by decide +kernel
theorem dX0_wouldTear_13 : decode cX0_wouldTear 13 = .ok (.iload_n 2, 1) := by decide +kernel
theorem dX0_wouldTear_14 : decode cX0_wouldTear 14 = .ok (.invokevirtual 61, 3) := by decide +kernel
theorem dX0_wouldTear_17 : decode cX0_wouldTear 17 = .ok (.istore 4, 2) := by decide +kernel
theorem dX0_wouldTear_19 : decode cX0_wouldTear 19 = .ok (.iload_n 3, 1) := by decide +kernel
theorem dX0_wouldTear_20 : decode cX0_wouldTear 20 = .ok (.iconst 2, 1) := by decide +kernel
theorem dX0_wouldTear_21 : decode cX0_wouldTear 21 = .ok (.imul, 1) := by decide +kernel
theorem dX0_wouldTear_22 : decode cX0_wouldTear 22 = .ok (.aload_n 0, 1) := by decide +kernel
theorem dX0_wouldTear_23 : decode cX0_wouldTear 23 = .ok (.iload_n 1, 1) := by decide +kernel
theorem dX0_wouldTear_24 : decode cX0_wouldTear 24 = .ok (.iload_n 2, 1) := by decide +kernel
theorem dX0_wouldTear_25 : decode cX0_wouldTear 25 = .ok (.invokevirtual 69, 3) := by decide +kernel
theorem dX0_wouldTear_28 : decode cX0_wouldTear 28 = .ok (.ifCond .eq 7, 3) := by decide +kernel
theorem dX0_wouldTear_31 : decode cX0_wouldTear 31 = .ok (.iconst 3, 1) := by decide +kernel
theorem dX0_wouldTear_32 : decode cX0_wouldTear 32 = .ok (.goto 4, 3) := by decide +kernel
theorem dX0_wouldTear_35 : decode cX0_wouldTear 35 = .ok (.iconst 0, 1) := by decide +kernel
theorem dX0_wouldTear_36 : decode cX0_wouldTear 36 = .ok (.iadd, 1) := by decide +kernel
theorem dX0_wouldTear_37 : decode cX0_wouldTear 37 = .ok (.aload_n 0, 1) := by decide +kernel
theorem dX0_wouldTear_38 : decode cX0_wouldTear 38 = .ok (.iload_n 2, 1) := by decide +kernel
theorem dX0_wouldTear_39 : decode cX0_wouldTear 39 = .ok (.invokevirtual 120, 3) := by decide +kernel
theorem dX0_wouldTear_42 : decode cX0_wouldTear 42 = .ok (.ifCond .eq 7, 3) := by decide +kernel
theorem dX0_wouldTear_45 : decode cX0_wouldTear 45 = .ok (.iconst 2, 1) := by decide +kernel
theorem dX0_wouldTear_46 : decode cX0_wouldTear 46 = .ok (.goto 4, 3) := by decide +kernel
theorem dX0_wouldTear_49 : decode cX0_wouldTear 49 = .ok (.iconst 0, 1) := by decide +kernel
theorem dX0_wouldTear_50 : decode cX0_wouldTear 50 = .ok (.iadd, 1) := by decide +kernel
theorem dX0_wouldTear_51 : decode cX0_wouldTear 51 = .ok (.istore 5, 2) := by decide +kernel
theorem dX0_wouldTear_53 : decode cX0_wouldTear 53 = .ok (.iconst 2, 1) := by decide +kernel
theorem dX0_wouldTear_54 : decode cX0_wouldTear 54 = .ok (.aload_n 0, 1) := by decide +kernel
theorem dX0_wouldTear_55 : decode cX0_wouldTear 55 = .ok (.getfield 18, 3) := by decide +kernel
theorem dX0_wouldTear_58 : decode cX0_wouldTear 58 = .ok (.iload 4, 2) := by decide +kernel
theorem dX0_wouldTear_60 : decode cX0_wouldTear 60 = .ok (.iaload, 1) := by decide +kernel
theorem dX0_wouldTear_61 : decode cX0_wouldTear 61 = .ok (.imul, 1) := by decide +kernel
theorem dX0_wouldTear_62 : decode cX0_wouldTear 62 = .ok (.aload_n 0, 1) := by decide +kernel
theorem dX0_wouldTear_63 : decode cX0_wouldTear 63 = .ok (.getfield 15, 3) := by decide +kernel
theorem dX0_wouldTear_66 : decode cX0_wouldTear 66 = .ok (.iload 4, 2) := by decide +kernel
theorem dX0_wouldTear_68 : decode cX0_wouldTear 68 = .ok (.iaload, 1) := by decide +kernel
theorem dX0_wouldTear_69 : decode cX0_wouldTear 69 = .ok (.iconst 4, 1) := by decide +kernel
theorem dX0_wouldTear_70 : decode cX0_wouldTear 70 = .ok (.idiv, 1) := by decide +kernel
theorem dX0_wouldTear_71 : decode cX0_wouldTear 71 = .ok (.iadd, 1) := by decide +kernel
theorem dX0_wouldTear_72 : decode cX0_wouldTear 72 = .ok (.aload_n 0, 1) := by decide +kernel
theorem dX0_wouldTear_73 : decode cX0_wouldTear 73 = .ok (.iload_n 1, 1) := by decide +kernel
theorem dX0_wouldTear_74 : decode cX0_wouldTear 74 = .ok (.invokevirtual 55, 3) := by decide +kernel
theorem dX0_wouldTear_77 : decode cX0_wouldTear 77 = .ok (.ifCond .eq 13, 3) := by decide +kernel
theorem dX0_wouldTear_80 : decode cX0_wouldTear 80 = .ok (.aload_n 0, 1) := by decide +kernel
theorem dX0_wouldTear_81 : decode cX0_wouldTear 81 = .ok (.getfield 34, 3) := by decide +kernel
theorem dX0_wouldTear_84 : decode cX0_wouldTear 84 = .ok (.bipush 20, 2) := by decide +kernel
theorem dX0_wouldTear_86 : decode cX0_wouldTear 86 = .ok (.idiv, 1) := by decide +kernel
theorem dX0_wouldTear_87 : decode cX0_wouldTear 87 = .ok (.goto 4, 3) := by decide +kernel
theorem dX0_wouldTear_90 : decode cX0_wouldTear 90 = .ok (.iconst 0, 1) := by decide +kernel
theorem dX0_wouldTear_91 : decode cX0_wouldTear 91 = .ok (.iadd, 1) := by decide +kernel
theorem dX0_wouldTear_92 : decode cX0_wouldTear 92 = .ok (.istore 6, 2) := by decide +kernel
theorem dX0_wouldTear_94 : decode cX0_wouldTear 94 = .ok (.iload 5, 2) := by decide +kernel
theorem dX0_wouldTear_96 : decode cX0_wouldTear 96 = .ok (.iload 6, 2) := by decide +kernel
theorem dX0_wouldTear_98 : decode cX0_wouldTear 98 = .ok (.if_icmp .le 7, 3) := by decide +kernel
theorem dX0_wouldTear_101 : decode cX0_wouldTear 101 = .ok (.iconst 1, 1) := by decide +kernel
theorem dX0_wouldTear_102 : decode cX0_wouldTear 102 = .ok (.goto 4, 3) := by decide +kernel
theorem dX0_wouldTear_105 : decode cX0_wouldTear 105 = .ok (.iconst 0, 1) := by decide +kernel
theorem dX0_wouldTear_106 : decode cX0_wouldTear 106 = .ok (.ireturn, 1) := by decide +kernel
set_option maxRecDepth 20000 in
theorem ggX0_wouldTearInAll_X0_wouldTear : GoodIn wsX0_wouldTearInAll wsX0_wouldTear := goodIn_r _ [7, 8, 9, 10, 11, 12, 13, 6, 14, 15, 16, 17, 18, 1, 2, 19, 20, 21, 22, 23, 24, 25, 26, 27, 28, 29, 30, 31, 32, 33, 34, 35, 36, 37, 38, 39, 40, 41, 42, 43, 44] (by decide +kernel) (by decide +kernel)
set_option maxRecDepth 20000 in
theorem gX0_wouldTearInAll_X0_wouldTear : GoodIn wsX0_wouldTearInAll (wsV RX0 116 RX0 yX0_wouldTear wsX0_wouldTear) := goodIn_app (goodIn_of _ (by decide +kernel)) ggX0_wouldTearInAll_X0_wouldTear
theorem dX0_wouldTearInAll_0 : decode cX0_wouldTearInAll 0 = .ok (.iconst 0, 1) := by decide +kernel
theorem dX0_wouldTearInAll_1 : decode cX0_wouldTearInAll 1 = .ok (.istore_n 2, 1) := by decide +kernel
theorem dX0_wouldTearInAll_2 : decode cX0_wouldTearInAll 2 = .ok (.iconst 0, 1) := by decide +kernel
theorem dX0_wouldTearInAll_3 : decode cX0_wouldTearInAll 3 = .ok (.istore_n 3, 1) := by decide +kernel
theorem dX0_wouldTearInAll_4 : decode cX0_wouldTearInAll 4 = .ok (.iload_n 3, 1) := by decide +kernel
theorem dX0_wouldTearInAll_5 : decode cX0_wouldTearInAll 5 = .ok (.aload_n 0, 1) := by decide +kernel
theorem dX0_wouldTearInAll_6 : decode cX0_wouldTearInAll 6 = .ok (.getfield 28, 3) := by decide +kernel
theorem dX0_wouldTearInAll_9 : decode cX0_wouldTearInAll 9 = .ok (.if_icmp .ge 41, 3) := by decide +kernel
theorem dX0_wouldTearInAll_12 : decode cX0_wouldTearInAll 12 = .ok (.iconst 0, 1) := by decide +kernel
theorem dX0_wouldTearInAll_13 : decode cX0_wouldTearInAll 13 = .ok (.istore 4, 2) := by decide +kernel
theorem dX0_wouldTearInAll_15 : decode cX0_wouldTearInAll 15 = .ok (.iload 4, 2) := by decide +kernel
theorem dX0_wouldTearInAll_17 : decode cX0_wouldTearInAll 17 = .ok (.aload_n 0, 1) := by decide +kernel
theorem dX0_wouldTearInAll_18 : decode cX0_wouldTearInAll 18 = .ok (.getfield 24, 3) := by decide +kernel
theorem dX0_wouldTearInAll_21 : decode cX0_wouldTearInAll 21 = .ok (.if_icmp .ge 23, 3) := by decide +kernel
theorem dX0_wouldTearInAll_24 : decode cX0_wouldTearInAll 24 = .ok (.aload_n 0, 1) := by decide +kernel
theorem dX0_wouldTearInAll_25 : decode cX0_wouldTearInAll 25 = .ok (.iload_n 3, 1) := by decide +kernel
theorem dX0_wouldTearInAll_26 : decode cX0_wouldTearInAll 26 = .ok (.iload 4, 2) := by decide +kernel
theorem dX0_wouldTearInAll_28 : decode cX0_wouldTearInAll 28 = .ok (.iload_n 1, 1) := by decide +kernel
theorem dX0_wouldTearInAll_29 : decode cX0_wouldTearInAll 29 = .ok (.invokevirtual 116, 3) := by decide +kernel
theorem dX0_wouldTearInAll_32 : decode cX0_wouldTearInAll 32 = .ok (.ifCond .eq 6, 3) := by decide +kernel
theorem dX0_wouldTearInAll_35 : decode cX0_wouldTearInAll 35 = .ok (.iinc 2 1, 3) := by decide +kernel
theorem dX0_wouldTearInAll_38 : decode cX0_wouldTearInAll 38 = .ok (.iinc 4 1, 3) := by decide +kernel
theorem dX0_wouldTearInAll_41 : decode cX0_wouldTearInAll 41 = .ok (.goto (-26), 3) := by decide +kernel
theorem dX0_wouldTearInAll_44 : decode cX0_wouldTearInAll 44 = .ok (.iinc 3 1, 3) := by decide +kernel
theorem dX0_wouldTearInAll_47 : decode cX0_wouldTearInAll 47 = .ok (.goto (-43), 3) := by decide +kernel
theorem dX0_wouldTearInAll_50 : decode cX0_wouldTearInAll 50 = .ok (.iload_n 2, 1) := by decide +kernel
theorem dX0_wouldTearInAll_51 : decode cX0_wouldTearInAll 51 = .ok (.ireturn, 1) := by decide +kernel
set_option maxRecDepth 20000 in
theorem ggX1_init_X0_init : GoodIn wsX1_init wsX0_init := goodIn_r _ [15, 16, 2, 3, 6, 17, 18, 19, 20, 21, 22, 23, 24, 32, 33, 34, 35, 36, 37, 38, 39, 40, 41] (by decide +kernel) (by decide +kernel)
set_option maxRecDepth 20000 in
theorem gX1_init_X0_init : GoodIn wsX1_init (wsX0_init) := ggX1_init_X0_init
end
section
theorem dX1_init_0 : decode cX1_init 0 = .ok (.aload_n 0, 1) := by decide +kernel
theorem dX1_init_1 : decode cX1_init 1 = .ok (.invokespecial 3, 3) := by decide +kernel
theorem dX1_init_4 : decode cX1_init 4 = .ok (.aload_n 0, 1) := by decide +kernel
theorem dX1_init_5 : decode cX1_init 5 = .ok (.bipush 6, 2) := by decide +kernel
theorem dX1_init_7 : decode cX1_init 7 = .ok (.anewarray 9, 3) := by decide +kernel
theorem dX1_init_10 : decode cX1_init 10 = .ok (.putfield 11, 3) := by decide +kernel
theorem dX1_init_13 : decode cX1_init 13 = .ok (.aload_n 0, 1) := by decide +kernel
theorem dX1_init_14 : decode cX1_init 14 = .ok (.iconst 3, 1) := by decide +kernel
theorem dX1_init_15 : decode cX1_init 15 = .ok (.newarray .int, 2) := by decide +kernel
theorem dX1_init_17 : decode cX1_init 17 = .ok (.putfield 15, 3) := by decide +kernel
theorem dX1_init_20 : decode cX1_init 20 = .ok (.aload_n 0, 1) := by decide +kernel
theorem dX1_init_21 : decode cX1_init 21 = .ok (.bipush 12, 2) := by decide +kernel
theorem dX1_init_23 : decode cX1_init 23 = .ok (.newarray .int, 2) := by decide +kernel
theorem dX1_init_25 : decode cX1_init 25 = .ok (.putfield 19, 3) := by decide +kernel
theorem dX1_init_28 : decode cX1_init 28 = .ok (.aload_n 0, 1) := by decide +kernel
theorem dX1_init_29 : decode cX1_init 29 = .ok (.bipush 12, 2) := by decide +kernel
theorem dX1_init_31 : decode cX1_init 31 = .ok (.newarray .int, 2) := by decide +kernel
theorem dX1_init_33 : decode cX1_init 33 = .ok (.putfield 22, 3) := by decide +kernel
theorem dX1_init_36 : decode cX1_init 36 = .ok (.aload_n 0, 1) := by decide +kernel
theorem dX1_init_37 : decode cX1_init 37 = .ok (.new 9, 3) := by decide +kernel
theorem dX1_init_40 : decode cX1_init 40 = .ok (.dup, 1) := by decide +kernel
theorem dX1_init_41 : decode cX1_init 41 = .ok (.iconst 2, 1) := by decide +kernel
theorem dX1_init_42 : decode cX1_init 42 = .ok (.iconst 2, 1) := by decide +kernel
theorem dX1_init_43 : decode cX1_init 43 = .ok (.bipush 30, 2) := by decide +kernel
theorem dX1_init_45 : decode cX1_init 45 = .ok (.invokespecial 25, 3) := by decide +kernel
theorem dX1_init_48 : decode cX1_init 48 = .ok (.putfield 28, 3) := by decide +kernel
theorem dX1_init_51 : decode cX1_init 51 = .ok (.iconst 0, 1) := by decide +kernel
theorem dX1_init_52 : decode cX1_init 52 = .ok (.istore_n 1, 1) := by decide +kernel
theorem dX1_init_53 : decode cX1_init 53 = .ok (.iload_n 1, 1) := by decide +kernel
theorem dX1_init_54 : decode cX1_init 54 = .ok (.bipush 12, 2) := by decide +kernel
theorem dX1_init_56 : decode cX1_init 56 = .ok (.if_icmp .ge 16, 3) := by decide +kernel
theorem dX1_init_59 : decode cX1_init 59 = .ok (.aload_n 0, 1) := by decide +kernel
theorem dX1_init_60 : decode cX1_init 60 = .ok (.getfield 19, 3) := by decide +kernel
theorem dX1_init_63 : decode cX1_init 63 = .ok (.iload_n 1, 1) := by decide +kernel
theorem dX1_init_64 : decode cX1_init 64 = .ok (.iconst 4, 1) := by decide +kernel
theorem dX1_init_65 : decode cX1_init 65 = .ok (.iastore, 1) := by decide +kernel
theorem dX1_init_66 : decode cX1_init 66 = .ok (.iinc 1 1, 3) := by decide +kernel
theorem dX1_init_69 : decode cX1_init 69 = .ok (.goto (-16), 3) := by decide +kernel
theorem dX1_init_72 : decode cX1_init 72 = .ok (.return_, 1) := by decide +kernel
set_option maxRecDepth 20000 in
theorem ggX1_build_X1_isWithin : GoodIn wsX1_build wsX1_isWithin := goodIn_r _ [13] (by decide +kernel) (by decide +kernel)
set_option maxRecDepth 20000 in
theorem gX1_build_X1_isWithin : GoodIn wsX1_build (va_wsS RX1 32 yX1_isWithin wsX1_isWithin) := goodIn_app (goodIn_of _ (by decide +kernel)) ggX1_build_X1_isWithin
set_option maxRecDepth 20000 in
theorem ggX1_build_X0_init : GoodIn wsX1_build wsX0_init := goodIn_r _ [16, 17, 18, 19, 20, 21, 22, 23, 24, 25, 26, 27, 28, 36, 37, 38, 39, 40, 41, 42, 43, 44, 45] (by decide +kernel) (by decide +kernel)
set_option maxRecDepth 20000 in
theorem gX1_build_X0_init : GoodIn wsX1_build (wsX0_init) := ggX1_build_X0_init
theorem dX1_build_0 : decode cX1_build 0 = .ok (.iload_n 1, 1) := by decide +kernel
theorem dX1_build_1 : decode cX1_build 1 = .ok (.iconst 2, 1) := by decide +kernel
theorem dX1_build_2 : decode cX1_build 2 = .ok (.bipush 10, 2) := by decide +kernel
theorem dX1_build_4 : decode cX1_build 4 = .ok (.invokestatic 32, 3) := by decide +kernel
theorem dX1_build_7 : decode cX1_build 7 = .ok (.ifCond .eq 24, 3) := by decide +kernel
theorem dX1_build_10 : decode cX1_build 10 = .ok (.iload_n 2, 1) := by decide +kernel
theorem dX1_build_11 : decode cX1_build 11 = .ok (.iconst 2, 1) := by decide +kernel
theorem dX1_build_12 : decode cX1_build 12 = .ok (.bipush 6, 2) := by decide +kernel
theorem dX1_build_14 : decode cX1_build 14 = .ok (.invokestatic 32, 3) := by decide +kernel
theorem dX1_build_17 : decode cX1_build 17 = .ok (.ifCond .eq 14, 3) := by decide +kernel
theorem dX1_build_20 : decode cX1_build 20 = .ok (.iload_n 3, 1) := by decide +kernel
theorem dX1_build_21 : decode cX1_build 21 = .ok (.bipush 30, 2) := by decide +kernel
theorem dX1_build_23 : decode cX1_build 23 = .ok (.bipush 60, 2) := by decide +kernel
theorem dX1_build_25 : decode cX1_build 25 = .ok (.invokestatic 32, 3) := by decide +kernel
theorem dX1_build_28 : decode cX1_build 28 = .ok (.ifCond .ne 13, 3) := by decide +kernel
theorem dX1_build_31 : decode cX1_build 31 = .ok (.new 36, 3) := by decide +kernel
theorem dX1_build_34 : decode cX1_build 34 = .ok (.dup, 1) := by decide +kernel
theorem dX1_build_35 : decode cX1_build 35 = .ok (.ldc 38, 2) := by decide +kernel
theorem dX1_build_37 : decode cX1_build 37 = .ok (.invokespecial 40, 3) := by decide +kernel
theorem dX1_build_40 : decode cX1_build 40 = .ok (.athrow, 1) := by decide +kernel
theorem dX1_build_41 : decode cX1_build 41 = .ok (.aload_n 0, 1) := by decide +kernel
theorem dX1_build_42 : decode cX1_build 42 = .ok (.getfield 43, 3) := by decide +kernel
theorem dX1_build_45 : decode cX1_build 45 = .ok (.bipush 6, 2) := by decide +kernel
theorem dX1_build_47 : decode cX1_build 47 = .ok (.if_icmp .lt 13, 3) := by decide +kernel
theorem dX1_build_50 : decode cX1_build 50 = .ok (.new 47, 3) := by decide +kernel
theorem dX1_build_53 : decode cX1_build 53 = .ok (.dup, 1) := by decide +kernel
theorem dX1_build_54 : decode cX1_build 54 = .ok (.ldc 49, 2) := by decide +kernel
theorem dX1_build_56 : decode cX1_build 56 = .ok (.invokespecial 51, 3) := by decide +kernel
theorem dX1_build_59 : decode cX1_build 59 = .ok (.athrow, 1) := by decide +kernel
theorem dX1_build_60 : decode cX1_build 60 = .ok (.aload_n 0, 1) := by decide +kernel
theorem dX1_build_61 : decode cX1_build 61 = .ok (.getfield 43, 3) := by decide +kernel
theorem dX1_build_64 : decode cX1_build 64 = .ok (.istore 4, 2) := by decide +kernel
theorem dX1_build_66 : decode cX1_build 66 = .ok (.aload_n 0, 1) := by decide +kernel
theorem dX1_build_67 : decode cX1_build 67 = .ok (.getfield 11, 3) := by decide +kernel
theorem dX1_build_70 : decode cX1_build 70 = .ok (.iload 4, 2) := by decide +kernel
theorem dX1_build_72 : decode cX1_build 72 = .ok (.new 9, 3) := by decide +kernel
theorem dX1_build_75 : decode cX1_build 75 = .ok (.dup, 1) := by decide +kernel
theorem dX1_build_76 : decode cX1_build 76 = .ok (.iload_n 1, 1) := by decide +kernel
theorem dX1_build_77 : decode cX1_build 77 = .ok (.iload_n 2, 1) := by decide +kernel
theorem dX1_build_78 : decode cX1_build 78 = .ok (.iload_n 3, 1) := by decide +kernel
theorem dX1_build_79 : decode cX1_build 79 = .ok (.invokespecial 25, 3) := by decide +kernel
theorem dX1_build_82 : decode cX1_build 82 = .ok (.aastore, 1) := by decide +kernel
theorem dX1_build_83 : decode cX1_build 83 = .ok (.aload_n 0, 1) := by decide +kernel
theorem dX1_build_84 : decode cX1_build 84 = .ok (.dup, 1) := by decide +kernel
theorem dX1_build_85 : decode cX1_build 85 = .ok (.getfield 43, 3) := by decide +kernel
theorem dX1_build_88 : decode cX1_build 88 = .ok (.iconst 1, 1) := by decide +kernel
theorem dX1_build_89 : decode cX1_build 89 = .ok (.iadd, 1) := by decide +kernel
theorem dX1_build_90 : decode cX1_build 90 = .ok (.putfield 43, 3) := by decide +kernel
theorem dX1_build_93 : decode cX1_build 93 = .ok (.iload 4, 2) := by decide +kernel
theorem dX1_build_95 : decode cX1_build 95 = .ok (.ireturn, 1) := by decide +kernel
set_option maxRecDepth 20000 in
theorem ggX1_bring_X1_isKind : GoodIn wsX1_bring wsX1_isKind := goodIn_r _ [11, 12, 13, 10, 14] (by decide +kernel) (by decide +kernel)
set_option maxRecDepth 20000 in
theorem gX1_bring_X1_isKind : GoodIn wsX1_bring (va_wsS RX1 52 yX1_isKind wsX1_isKind) := goodIn_app (goodIn_of _ (by decide +kernel)) ggX1_bring_X1_isKind
set_option maxRecDepth 20000 in
theorem ggX1_bring_X1_isWithin : GoodIn wsX1_bring wsX1_isWithin := goodIn_r _ [14] (by decide +kernel) (by decide +kernel)
set_option maxRecDepth 20000 in
theorem gX1_bring_X1_isWithin : GoodIn wsX1_bring (va_wsS RX1 32 yX1_isWithin wsX1_isWithin) := goodIn_app (goodIn_of _ (by decide +kernel)) ggX1_bring_X1_isWithin
theorem dX1_bring_0 : decode cX1_bring 0 = .ok (.iload_n 1, 1) := by decide +kernel
theorem dX1_bring_1 : decode cX1_bring 1 = .ok (.invokestatic 52, 3) := by decide +kernel
theorem dX1_bring_4 : decode cX1_bring 4 = .ok (.ifCond .ne 13, 3) := by decide +kernel
theorem dX1_bring_7 : decode cX1_bring 7 = .ok (.new 56, 3) := by decide +kernel
theorem dX1_bring_10 : decode cX1_bring 10 = .ok (.dup, 1) := by decide +kernel
theorem dX1_bring_11 : decode cX1_bring 11 = .ok (.ldc 58, 2) := by decide +kernel
theorem dX1_bring_13 : decode cX1_bring 13 = .ok (.invokespecial 60, 3) := by decide +kernel
theorem dX1_bring_16 : decode cX1_bring 16 = .ok (.athrow, 1) := by decide +kernel
theorem dX1_bring_17 : decode cX1_bring 17 = .ok (.iload_n 2, 1) := by decide +kernel
theorem dX1_bring_18 : decode cX1_bring 18 = .ok (.iconst 1, 1) := by decide +kernel
theorem dX1_bring_19 : decode cX1_bring 19 = .ok (.sipush 500, 3) := by decide +kernel
theorem dX1_bring_22 : decode cX1_bring 22 = .ok (.invokestatic 32, 3) := by decide +kernel
theorem dX1_bring_25 : decode cX1_bring 25 = .ok (.ifCond .ne 13, 3) := by decide +kernel
theorem dX1_bring_28 : decode cX1_bring 28 = .ok (.new 36, 3) := by decide +kernel
theorem dX1_bring_31 : decode cX1_bring 31 = .ok (.dup, 1) := by decide +kernel
theorem dX1_bring_32 : decode cX1_bring 32 = .ok (.ldc 61, 2) := by decide +kernel
theorem dX1_bring_34 : decode cX1_bring 34 = .ok (.invokespecial 40, 3) := by decide +kernel
theorem dX1_bring_37 : decode cX1_bring 37 = .ok (.athrow, 1) := by decide +kernel
theorem dX1_bring_38 : decode cX1_bring 38 = .ok (.aload_n 0, 1) := by decide +kernel
theorem dX1_bring_39 : decode cX1_bring 39 = .ok (.getfield 15, 3) := by decide +kernel
theorem dX1_bring_42 : decode cX1_bring 42 = .ok (.iload_n 1, 1) := by decide +kernel
theorem dX1_bring_43 : decode cX1_bring 43 = .ok (.iaload, 1) := by decide +kernel
theorem dX1_bring_44 : decode cX1_bring 44 = .ok (.iload_n 2, 1) := by decide +kernel
theorem dX1_bring_45 : decode cX1_bring 45 = .ok (.iadd, 1) := by decide +kernel
theorem dX1_bring_46 : decode cX1_bring 46 = .ok (.sipush 500, 3) := by decide +kernel
theorem dX1_bring_49 : decode cX1_bring 49 = .ok (.if_icmp .le 13, 3) := by decide +kernel
theorem dX1_bring_52 : decode cX1_bring 52 = .ok (.new 47, 3) := by decide +kernel
theorem dX1_bring_55 : decode cX1_bring 55 = .ok (.dup, 1) := by decide +kernel
theorem dX1_bring_56 : decode cX1_bring 56 = .ok (.ldc 63, 2) := by decide +kernel
theorem dX1_bring_58 : decode cX1_bring 58 = .ok (.invokespecial 51, 3) := by decide +kernel
theorem dX1_bring_61 : decode cX1_bring 61 = .ok (.athrow, 1) := by decide +kernel
theorem dX1_bring_62 : decode cX1_bring 62 = .ok (.aload_n 0, 1) := by decide +kernel
theorem dX1_bring_63 : decode cX1_bring 63 = .ok (.getfield 15, 3) := by decide +kernel
theorem dX1_bring_66 : decode cX1_bring 66 = .ok (.iload_n 1, 1) := by decide +kernel
theorem dX1_bring_67 : decode cX1_bring 67 = .ok (.dup2, 1) := by decide +kernel
theorem dX1_bring_68 : decode cX1_bring 68 = .ok (.iaload, 1) := by decide +kernel
theorem dX1_bring_69 : decode cX1_bring 69 = .ok (.iload_n 2, 1) := by decide +kernel
theorem dX1_bring_70 : decode cX1_bring 70 = .ok (.iadd, 1) := by decide +kernel
theorem dX1_bring_71 : decode cX1_bring 71 = .ok (.iastore, 1) := by decide +kernel
theorem dX1_bring_72 : decode cX1_bring 72 = .ok (.aload_n 0, 1) := by decide +kernel
theorem dX1_bring_73 : decode cX1_bring 73 = .ok (.getfield 15, 3) := by decide +kernel
theorem dX1_bring_76 : decode cX1_bring 76 = .ok (.iload_n 1, 1) := by decide +kernel
theorem dX1_bring_77 : decode cX1_bring 77 = .ok (.iaload, 1) := by decide +kernel
theorem dX1_bring_78 : decode cX1_bring 78 = .ok (.ireturn, 1) := by decide +kernel
set_option maxRecDepth 20000 in
theorem ggX1_setWeather_X1_isWithin : GoodIn wsX1_setWeather wsX1_isWithin := goodIn_r _ [10] (by decide +kernel) (by decide +kernel)
set_option maxRecDepth 20000 in
theorem gX1_setWeather_X1_isWithin : GoodIn wsX1_setWeather (va_wsS RX1 32 yX1_isWithin wsX1_isWithin) := goodIn_app (goodIn_of _ (by decide +kernel)) ggX1_setWeather_X1_isWithin
theorem dX1_setWeather_0 : decode cX1_setWeather 0 = .ok (.iload_n 1, 1) := by decide +kernel
theorem dX1_setWeather_1 : decode cX1_setWeather 1 = .ok (.iconst 0, 1) := by decide +kernel
theorem dX1_setWeather_2 : decode cX1_setWeather 2 = .ok (.bipush 11, 2) := by decide +kernel
theorem dX1_setWeather_4 : decode cX1_setWeather 4 = .ok (.invokestatic 32, 3) := by decide +kernel
theorem dX1_setWeather_7 : decode cX1_setWeather 7 = .ok (.ifCond .ne 13, 3) := by decide +kernel
theorem dX1_setWeather_10 : decode cX1_setWeather 10 = .ok (.new 56, 3) := by decide +kernel
theorem dX1_setWeather_13 : decode cX1_setWeather 13 = .ok (.dup, 1) := by decide +kernel
theorem dX1_setWeather_14 : decode cX1_setWeather 14 = .ok (.ldc 65, 2) := by decide +kernel
theorem dX1_setWeather_16 : decode cX1_setWeather 16 = .ok (.invokespecial 60, 3) := by decide +kernel
theorem dX1_setWeather_19 : decode cX1_setWeather 19 = .ok (.athrow, 1) := by decide +kernel
theorem dX1_setWeather_20 : decode cX1_setWeather 20 = .ok (.iload_n 2, 1) := by decide +kernel
theorem dX1_setWeather_21 : decode cX1_setWeather 21 = .ok (.iconst 0, 1) := by decide +kernel
theorem dX1_setWeather_22 : decode cX1_setWeather 22 = .ok (.bipush 9, 2) := by decide +kernel
theorem dX1_setWeather_24 : decode cX1_setWeather 24 = .ok (.invokestatic 32, 3) := by decide +kernel
theorem dX1_setWeather_27 : decode cX1_setWeather 27 = .ok (.ifCond .eq 13, 3) := by decide +kernel
theorem dX1_setWeather_30 : decode cX1_setWeather 30 = .ok (.iload_n 3, 1) := by decide +kernel
theorem dX1_setWeather_31 : decode cX1_setWeather 31 = .ok (.iconst 0, 1) := by decide +kernel
theorem dX1_setWeather_32 : decode cX1_setWeather 32 = .ok (.bipush 9, 2) := by decide +kernel
theorem dX1_setWeather_34 : decode cX1_setWeather 34 = .ok (.invokestatic 32, 3) := by decide +kernel
theorem dX1_setWeather_37 : decode cX1_setWeather 37 = .ok (.ifCond .ne 13, 3) := by decide +kernel
theorem dX1_setWeather_40 : decode cX1_setWeather 40 = .ok (.new 36, 3) := by decide +kernel
theorem dX1_setWeather_43 : decode cX1_setWeather 43 = .ok (.dup, 1) := by decide +kernel
theorem dX1_setWeather_44 : decode cX1_setWeather 44 = .ok (.ldc 67, 2) := by decide +kernel
theorem dX1_setWeather_46 : decode cX1_setWeather 46 = .ok (.invokespecial 40, 3) := by decide +kernel
theorem dX1_setWeather_49 : decode cX1_setWeather 49 = .ok (.athrow, 1) := by decide +kernel
theorem dX1_setWeather_50 : decode cX1_setWeather 50 = .ok (.bipush 10, 2) := by decide +kernel
theorem dX1_setWeather_52 : decode cX1_setWeather 52 = .ok (.aload_n 0, 1) := by decide +kernel
theorem dX1_setWeather_53 : decode cX1_setWeather 53 = .ok (.getfield 19, 3) := by decide +kernel
theorem dX1_setWeather_56 : decode cX1_setWeather 56 = .ok (.iload_n 1, 1) := by decide +kernel
theorem dX1_setWeather_57 : decode cX1_setWeather 57 = .ok (.iaload, 1) := by decide +kernel
theorem dX1_setWeather_58 : decode cX1_setWeather 58 = .ok (.imul, 1) := by decide +kernel
theorem dX1_setWeather_59 : decode cX1_setWeather 59 = .ok (.aload_n 0, 1) := by decide +kernel
theorem dX1_setWeather_60 : decode cX1_setWeather 60 = .ok (.getfield 22, 3) := by decide +kernel
theorem dX1_setWeather_63 : decode cX1_setWeather 63 = .ok (.iload_n 1, 1) := by decide +kernel
theorem dX1_setWeather_64 : decode cX1_setWeather 64 = .ok (.iaload, 1) := by decide +kernel
theorem dX1_setWeather_65 : decode cX1_setWeather 65 = .ok (.iadd, 1) := by decide +kernel
theorem dX1_setWeather_66 : decode cX1_setWeather 66 = .ok (.istore 4, 2) := by decide +kernel
theorem dX1_setWeather_68 : decode cX1_setWeather 68 = .ok (.aload_n 0, 1) := by decide +kernel
theorem dX1_setWeather_69 : decode cX1_setWeather 69 = .ok (.getfield 19, 3) := by decide +kernel
theorem dX1_setWeather_72 : decode cX1_setWeather 72 = .ok (.iload_n 1, 1) := by decide +kernel
theorem dX1_setWeather_73 : decode cX1_setWeather 73 = .ok (.iload_n 2, 1) := by decide +kernel
theorem dX1_setWeather_74 : decode cX1_setWeather 74 = .ok (.iastore, 1) := by decide +kernel
theorem dX1_setWeather_75 : decode cX1_setWeather 75 = .ok (.aload_n 0, 1) := by decide +kernel
theorem dX1_setWeather_76 : decode cX1_setWeather 76 = .ok (.getfield 22, 3) := by decide +kernel
theorem dX1_setWeather_79 : decode cX1_setWeather 79 = .ok (.iload_n 1, 1) := by decide +kernel
theorem dX1_setWeather_80 : decode cX1_setWeather 80 = .ok (.iload_n 3, 1) := by decide +kernel
theorem dX1_setWeather_81 : decode cX1_setWeather 81 = .ok (.iastore, 1) := by decide +kernel
theorem dX1_setWeather_82 : decode cX1_setWeather 82 = .ok (.iload 4, 2) := by decide +kernel
theorem dX1_setWeather_84 : decode cX1_setWeather 84 = .ok (.ireturn, 1) := by decide +kernel
set_option maxRecDepth 20000 in
theorem ggX1_lay_X1_roofAt : GoodIn wsX1_lay wsX1_roofAt := goodIn_r _ [12, 13, 14, 15, 11, 16, 62, 63, 64, 65, 66, 67, 68] (by decide +kernel) (by decide +kernel)
set_option maxRecDepth 20000 in
theorem gX1_lay_X1_roofAt : GoodIn wsX1_lay (wsV RX1 69 RX1 yX1_roofAt wsX1_roofAt) := goodIn_app (goodIn_of _ (by decide +kernel)) ggX1_lay_X1_roofAt
set_option maxRecDepth 20000 in
theorem ggX1_lay_X0_hasPlace : GoodIn wsX1_lay wsX0_hasPlace := goodIn_r _ [21, 22, 23, 24, 25, 20, 26, 27, 69, 70, 71, 72, 73, 74, 75, 76, 77, 78] (by decide +kernel) (by decide +kernel)
set_option maxRecDepth 20000 in
theorem gX1_lay_X0_hasPlace : GoodIn wsX1_lay (wsV RX1 73 RX0 yX0_hasPlace wsX0_hasPlace) := goodIn_app (goodIn_of _ (by decide +kernel)) ggX1_lay_X0_hasPlace
set_option maxRecDepth 20000 in
theorem ggX1_lay_X1_isKind : GoodIn wsX1_lay wsX1_isKind := goodIn_r _ [30, 14, 15, 11, 16] (by decide +kernel) (by decide +kernel)
set_option maxRecDepth 20000 in
theorem gX1_lay_X1_isKind : GoodIn wsX1_lay (va_wsS RX1 52 yX1_isKind wsX1_isKind) := goodIn_app (goodIn_of _ (by decide +kernel)) ggX1_lay_X1_isKind
set_option maxRecDepth 20000 in
theorem ggX1_lay_X1_isYealm : GoodIn wsX1_lay wsX1_isYealm := goodIn_r _ [33, 14, 15, 11, 16] (by decide +kernel) (by decide +kernel)
set_option maxRecDepth 20000 in
theorem gX1_lay_X1_isYealm : GoodIn wsX1_lay (va_wsS RX1 79 yX1_isYealm wsX1_isYealm) := goodIn_app (goodIn_of _ (by decide +kernel)) ggX1_lay_X1_isYealm
set_option maxRecDepth 20000 in
theorem ggX1_lay_X0_canCarry : GoodIn wsX1_lay wsX0_canCarry := goodIn_r _ [37, 38, 39, 40, 20, 41, 42, 43, 44, 45, 27, 22, 46, 69, 70, 71, 72, 73, 74, 75, 76, 77, 78] (by decide +kernel) (by decide +kernel)
set_option maxRecDepth 20000 in
theorem gX1_lay_X0_canCarry : GoodIn wsX1_lay (wsV RX1 84 RX0 yX0_canCarry wsX0_canCarry) := goodIn_app (goodIn_of _ (by decide +kernel)) ggX1_lay_X0_canCarry
set_option maxRecDepth 20000 in
theorem ggX1_lay_X1_bundlesFor : GoodIn wsX1_lay wsX1_bundlesFor := goodIn_r _ [49] (by decide +kernel) (by decide +kernel)
set_option maxRecDepth 20000 in
theorem gX1_lay_X1_bundlesFor : GoodIn wsX1_lay (va_wsS RX1 87 yX1_bundlesFor wsX1_bundlesFor) := goodIn_app (goodIn_of _ (by decide +kernel)) ggX1_lay_X1_bundlesFor
set_option maxRecDepth 20000 in
theorem ggX1_lay_X0_putYealm : GoodIn wsX1_lay wsX0_putYealm := goodIn_r _ [53, 54, 46, 55, 56, 57, 18, 19, 20, 21, 22, 23, 24, 25, 26, 27, 58, 59, 60, 61, 69, 70, 71, 72, 73, 74, 75, 76, 77, 78] (by decide +kernel) (by decide +kernel)
set_option maxRecDepth 20000 in
theorem gX1_lay_X0_putYealm : GoodIn wsX1_lay (wsV RX1 93 RX0 yX0_putYealm wsX0_putYealm) := goodIn_app (goodIn_of _ (by decide +kernel)) ggX1_lay_X0_putYealm
theorem dX1_lay_0 : decode cX1_lay 0 = .ok (.aload_n 0, 1) := by decide +kernel
theorem dX1_lay_1 : decode cX1_lay 1 = .ok (.iload_n 1, 1) := by decide +kernel
theorem dX1_lay_2 : decode cX1_lay 2 = .ok (.invokevirtual 69, 3) := by decide +kernel
theorem dX1_lay_5 : decode cX1_lay 5 = .ok (.astore 7, 2) := by decide +kernel
theorem dX1_lay_7 : decode cX1_lay 7 = .ok (.aload 7, 2) := by decide +kernel
theorem dX1_lay_9 : decode cX1_lay 9 = .ok (.ifnull 21, 3) := by decide +kernel
theorem dX1_lay_12 : decode cX1_lay 12 = .ok (.aload 7, 2) := by decide +kernel
theorem dX1_lay_14 : decode cX1_lay 14 = .ok (.iload_n 2, 1) := by decide +kernel
theorem dX1_lay_15 : decode cX1_lay 15 = .ok (.iload_n 3, 1) := by decide +kernel
theorem dX1_lay_16 : decode cX1_lay 16 = .ok (.invokevirtual 73, 3) := by decide +kernel
theorem dX1_lay_19 : decode cX1_lay 19 = .ok (.ifCond .eq 11, 3) := by decide +kernel
theorem dX1_lay_22 : decode cX1_lay 22 = .ok (.iload 4, 2) := by decide +kernel
theorem dX1_lay_24 : decode cX1_lay 24 = .ok (.invokestatic 52, 3) := by decide +kernel
theorem dX1_lay_27 : decode cX1_lay 27 = .ok (.ifCond .ne 13, 3) := by decide +kernel
theorem dX1_lay_30 : decode cX1_lay 30 = .ok (.new 56, 3) := by decide +kernel
theorem dX1_lay_33 : decode cX1_lay 33 = .ok (.dup, 1) := by decide +kernel
theorem dX1_lay_34 : decode cX1_lay 34 = .ok (.ldc 77, 2) := by decide +kernel
theorem dX1_lay_36 : decode cX1_lay 36 = .ok (.invokespecial 60, 3) := by decide +kernel
theorem dX1_lay_39 : decode cX1_lay 39 = .ok (.athrow, 1) := by decide +kernel
theorem dX1_lay_40 : decode cX1_lay 40 = .ok (.iload 5, 2) := by decide +kernel
theorem dX1_lay_42 : decode cX1_lay 42 = .ok (.iload 6, 2) := by decide +kernel
theorem dX1_lay_44 : decode cX1_lay 44 = .ok (.invokestatic 79, 3) := by decide +kernel
theorem dX1_lay_47 : decode cX1_lay 47 = .ok (.ifCond .ne 13, 3) := by decide +kernel
theorem dX1_lay_50 : decode cX1_lay 50 = .ok (.new 36, 3) := by decide +kernel
theorem dX1_lay_53 : decode cX1_lay 53 = .ok (.dup, 1) := by decide +kernel
theorem dX1_lay_54 : decode cX1_lay 54 = .ok (.ldc 82, 2) := by decide +kernel
theorem dX1_lay_56 : decode cX1_lay 56 = .ok (.invokespecial 40, 3) := by decide +kernel
theorem dX1_lay_59 : decode cX1_lay 59 = .ok (.athrow, 1) := by decide +kernel
theorem dX1_lay_60 : decode cX1_lay 60 = .ok (.aload 7, 2) := by decide +kernel
theorem dX1_lay_62 : decode cX1_lay 62 = .ok (.iload_n 2, 1) := by decide +kernel
theorem dX1_lay_63 : decode cX1_lay 63 = .ok (.iload_n 3, 1) := by decide +kernel
theorem dX1_lay_64 : decode cX1_lay 64 = .ok (.invokevirtual 84, 3) := by decide +kernel
theorem dX1_lay_67 : decode cX1_lay 67 = .ok (.ifCond .eq 18, 3) := by decide +kernel
theorem dX1_lay_70 : decode cX1_lay 70 = .ok (.aload_n 0, 1) := by decide +kernel
theorem dX1_lay_71 : decode cX1_lay 71 = .ok (.getfield 15, 3) := by decide +kernel
theorem dX1_lay_74 : decode cX1_lay 74 = .ok (.iload 4, 2) := by decide +kernel
theorem dX1_lay_76 : decode cX1_lay 76 = .ok (.iaload, 1) := by decide +kernel
theorem dX1_lay_77 : decode cX1_lay 77 = .ok (.iload 5, 2) := by decide +kernel
theorem dX1_lay_79 : decode cX1_lay 79 = .ok (.invokestatic 87, 3) := by decide +kernel
theorem dX1_lay_82 : decode cX1_lay 82 = .ok (.if_icmp .ge 13, 3) := by decide +kernel
theorem dX1_lay_85 : decode cX1_lay 85 = .ok (.new 47, 3) := by decide +kernel
theorem dX1_lay_88 : decode cX1_lay 88 = .ok (.dup, 1) := by decide +kernel
theorem dX1_lay_89 : decode cX1_lay 89 = .ok (.ldc 91, 2) := by decide +kernel
theorem dX1_lay_91 : decode cX1_lay 91 = .ok (.invokespecial 51, 3) := by decide +kernel
theorem dX1_lay_94 : decode cX1_lay 94 = .ok (.athrow, 1) := by decide +kernel
theorem dX1_lay_95 : decode cX1_lay 95 = .ok (.aload_n 0, 1) := by decide +kernel
theorem dX1_lay_96 : decode cX1_lay 96 = .ok (.getfield 15, 3) := by decide +kernel
theorem dX1_lay_99 : decode cX1_lay 99 = .ok (.iload 4, 2) := by decide +kernel
theorem dX1_lay_101 : decode cX1_lay 101 = .ok (.dup2, 1) := by decide +kernel
theorem dX1_lay_102 : decode cX1_lay 102 = .ok (.iaload, 1) := by decide +kernel
theorem dX1_lay_103 : decode cX1_lay 103 = .ok (.iload 5, 2) := by decide +kernel
theorem dX1_lay_105 : decode cX1_lay 105 = .ok (.invokestatic 87, 3) := by decide +kernel
theorem dX1_lay_108 : decode cX1_lay 108 = .ok (.isub, 1) := by decide +kernel
theorem dX1_lay_109 : decode cX1_lay 109 = .ok (.iastore, 1) := by decide +kernel
theorem dX1_lay_110 : decode cX1_lay 110 = .ok (.aload 7, 2) := by decide +kernel
theorem dX1_lay_112 : decode cX1_lay 112 = .ok (.iload_n 2, 1) := by decide +kernel
theorem dX1_lay_113 : decode cX1_lay 113 = .ok (.iload_n 3, 1) := by decide +kernel
theorem dX1_lay_114 : decode cX1_lay 114 = .ok (.iload 4, 2) := by decide +kernel
theorem dX1_lay_116 : decode cX1_lay 116 = .ok (.iload 5, 2) := by decide +kernel
theorem dX1_lay_118 : decode cX1_lay 118 = .ok (.iload 6, 2) := by decide +kernel
theorem dX1_lay_120 : decode cX1_lay 120 = .ok (.invokevirtual 93, 3) := by decide +kernel
theorem dX1_lay_123 : decode cX1_lay 123 = .ok (.iload 5, 2) := by decide +kernel
theorem dX1_lay_125 : decode cX1_lay 125 = .ok (.invokestatic 87, 3) := by decide +kernel
theorem dX1_lay_128 : decode cX1_lay 128 = .ok (.ireturn, 1) := by decide +kernel
set_option maxRecDepth 20000 in
theorem ggX1_layCourse_X1_roofAt : GoodIn wsX1_layCourse wsX1_roofAt := goodIn_r _ [10, 11, 12, 13, 9, 14, 64, 65, 66, 67, 68, 69, 70] (by decide +kernel) (by decide +kernel)
set_option maxRecDepth 20000 in
theorem gX1_layCourse_X1_roofAt : GoodIn wsX1_layCourse (wsV RX1 69 RX1 yX1_roofAt wsX1_roofAt) := goodIn_app (goodIn_of _ (by decide +kernel)) ggX1_layCourse_X1_roofAt
set_option maxRecDepth 20000 in
theorem ggX1_layCourse_X0_hasCourse : GoodIn wsX1_layCourse wsX0_hasCourse := goodIn_r _ [19, 20, 71, 72, 73, 74, 75, 76, 77, 78, 79, 80] (by decide +kernel) (by decide +kernel)
set_option maxRecDepth 20000 in
theorem gX1_layCourse_X0_hasCourse : GoodIn wsX1_layCourse (wsV RX1 97 RX0 yX0_hasCourse wsX0_hasCourse) := goodIn_app (goodIn_of _ (by decide +kernel)) ggX1_layCourse_X0_hasCourse
set_option maxRecDepth 20000 in
theorem ggX1_layCourse_X1_isKind : GoodIn wsX1_layCourse wsX1_isKind := goodIn_r _ [23, 12, 13, 9, 14] (by decide +kernel) (by decide +kernel)
set_option maxRecDepth 20000 in
theorem gX1_layCourse_X1_isKind : GoodIn wsX1_layCourse (va_wsS RX1 52 yX1_isKind wsX1_isKind) := goodIn_app (goodIn_of _ (by decide +kernel)) ggX1_layCourse_X1_isKind
set_option maxRecDepth 20000 in
theorem ggX1_layCourse_X1_isYealm : GoodIn wsX1_layCourse wsX1_isYealm := goodIn_r _ [26, 12, 13, 9, 14] (by decide +kernel) (by decide +kernel)
set_option maxRecDepth 20000 in
theorem gX1_layCourse_X1_isYealm : GoodIn wsX1_layCourse (va_wsS RX1 79 yX1_isYealm wsX1_isYealm) := goodIn_app (goodIn_of _ (by decide +kernel)) ggX1_layCourse_X1_isYealm
set_option maxRecDepth 20000 in
theorem ggX1_layCourse_X0_wide : GoodIn wsX1_layCourse wsX0_wide := goodIn_r _ [30, 31, 71, 72, 73, 74, 75, 76, 77, 78, 79, 80] (by decide +kernel) (by decide +kernel)
set_option maxRecDepth 20000 in
theorem gX1_layCourse_X0_wide : GoodIn wsX1_layCourse (wsV RX1 102 RX0 yX0_wide wsX0_wide) := goodIn_app (goodIn_of _ (by decide +kernel)) ggX1_layCourse_X0_wide
set_option maxRecDepth 20000 in
theorem ggX1_layCourse_X0_canCarry : GoodIn wsX1_layCourse wsX0_canCarry := goodIn_r _ [35, 36, 37, 38, 18, 39, 40, 41, 42, 43, 20, 31, 44, 71, 72, 73, 74, 75, 76, 77, 78, 79, 80] (by decide +kernel) (by decide +kernel)
set_option maxRecDepth 20000 in
theorem gX1_layCourse_X0_canCarry : GoodIn wsX1_layCourse (wsV RX1 84 RX0 yX0_canCarry wsX0_canCarry) := goodIn_app (goodIn_of _ (by decide +kernel)) ggX1_layCourse_X0_canCarry
set_option maxRecDepth 20000 in
theorem ggX1_layCourse_X1_bundlesFor : GoodIn wsX1_layCourse wsX1_bundlesFor := goodIn_r _ [47] (by decide +kernel) (by decide +kernel)
set_option maxRecDepth 20000 in
theorem gX1_layCourse_X1_bundlesFor : GoodIn wsX1_layCourse (va_wsS RX1 87 yX1_bundlesFor wsX1_bundlesFor) := goodIn_app (goodIn_of _ (by decide +kernel)) ggX1_layCourse_X1_bundlesFor
set_option maxRecDepth 20000 in
theorem ggX1_layCourse_X0_putYealm : GoodIn wsX1_layCourse wsX0_putYealm := goodIn_r _ [51, 52, 44, 53, 54, 55, 56, 57, 18, 58, 31, 59, 16, 17, 19, 20, 60, 61, 62, 63, 71, 72, 73, 74, 75, 76, 77, 78, 79, 80] (by decide +kernel) (by decide +kernel)
set_option maxRecDepth 20000 in
theorem gX1_layCourse_X0_putYealm : GoodIn wsX1_layCourse (wsV RX1 93 RX0 yX0_putYealm wsX0_putYealm) := goodIn_app (goodIn_of _ (by decide +kernel)) ggX1_layCourse_X0_putYealm
theorem dX1_layCourse_0 : decode cX1_layCourse 0 = .ok (.aload_n 0, 1) := by decide +kernel
theorem dX1_layCourse_1 : decode cX1_layCourse 1 = .ok (.iload_n 1, 1) := by decide +kernel
theorem dX1_layCourse_2 : decode cX1_layCourse 2 = .ok (.invokevirtual 69, 3) := by decide +kernel
theorem dX1_layCourse_5 : decode cX1_layCourse 5 = .ok (.astore 6, 2) := by decide +kernel
theorem dX1_layCourse_7 : decode cX1_layCourse 7 = .ok (.aload 6, 2) := by decide +kernel
theorem dX1_layCourse_9 : decode cX1_layCourse 9 = .ok (.ifnull 19, 3) := by decide +kernel
theorem dX1_layCourse_12 : decode cX1_layCourse 12 = .ok (.aload 6, 2) := by decide +kernel
theorem dX1_layCourse_14 : decode cX1_layCourse 14 = .ok (.iload_n 2, 1) := by decide +kernel
theorem dX1_layCourse_15 : decode cX1_layCourse 15 = .ok (.invokevirtual 97, 3) := by decide +kernel
theorem dX1_layCourse_18 : decode cX1_layCourse 18 = .ok (.ifCond .eq 10, 3) := by decide +kernel
theorem dX1_layCourse_21 : decode cX1_layCourse 21 = .ok (.iload_n 3, 1) := by decide +kernel
theorem dX1_layCourse_22 : decode cX1_layCourse 22 = .ok (.invokestatic 52, 3) := by decide +kernel
theorem dX1_layCourse_25 : decode cX1_layCourse 25 = .ok (.ifCond .ne 13, 3) := by decide +kernel
theorem dX1_layCourse_28 : decode cX1_layCourse 28 = .ok (.new 56, 3) := by decide +kernel
theorem dX1_layCourse_31 : decode cX1_layCourse 31 = .ok (.dup, 1) := by decide +kernel
theorem dX1_layCourse_32 : decode cX1_layCourse 32 = .ok (.ldc 100, 2) := by decide +kernel
theorem dX1_layCourse_34 : decode cX1_layCourse 34 = .ok (.invokespecial 60, 3) := by decide +kernel
theorem dX1_layCourse_37 : decode cX1_layCourse 37 = .ok (.athrow, 1) := by decide +kernel
theorem dX1_layCourse_38 : decode cX1_layCourse 38 = .ok (.iload 4, 2) := by decide +kernel
theorem dX1_layCourse_40 : decode cX1_layCourse 40 = .ok (.iload 5, 2) := by decide +kernel
theorem dX1_layCourse_42 : decode cX1_layCourse 42 = .ok (.invokestatic 79, 3) := by decide +kernel
theorem dX1_layCourse_45 : decode cX1_layCourse 45 = .ok (.ifCond .ne 13, 3) := by decide +kernel
theorem dX1_layCourse_48 : decode cX1_layCourse 48 = .ok (.new 36, 3) := by decide +kernel
theorem dX1_layCourse_51 : decode cX1_layCourse 51 = .ok (.dup, 1) := by decide +kernel
theorem dX1_layCourse_52 : decode cX1_layCourse 52 = .ok (.ldc 82, 2) := by decide +kernel
theorem dX1_layCourse_54 : decode cX1_layCourse 54 = .ok (.invokespecial 40, 3) := by decide +kernel
theorem dX1_layCourse_57 : decode cX1_layCourse 57 = .ok (.athrow, 1) := by decide +kernel
theorem dX1_layCourse_58 : decode cX1_layCourse 58 = .ok (.iconst 0, 1) := by decide +kernel
theorem dX1_layCourse_59 : decode cX1_layCourse 59 = .ok (.istore 7, 2) := by decide +kernel
theorem dX1_layCourse_61 : decode cX1_layCourse 61 = .ok (.iconst 0, 1) := by decide +kernel
theorem dX1_layCourse_62 : decode cX1_layCourse 62 = .ok (.istore 8, 2) := by decide +kernel
theorem dX1_layCourse_64 : decode cX1_layCourse 64 = .ok (.iload 8, 2) := by decide +kernel
theorem dX1_layCourse_66 : decode cX1_layCourse 66 = .ok (.aload 6, 2) := by decide +kernel
theorem dX1_layCourse_68 : decode cX1_layCourse 68 = .ok (.invokevirtual 102, 3) := by decide +kernel
theorem dX1_layCourse_71 : decode cX1_layCourse 71 = .ok (.if_icmp .ge 64, 3) := by decide +kernel
theorem dX1_layCourse_74 : decode cX1_layCourse 74 = .ok (.aload 6, 2) := by decide +kernel
theorem dX1_layCourse_76 : decode cX1_layCourse 76 = .ok (.iload_n 2, 1) := by decide +kernel
theorem dX1_layCourse_77 : decode cX1_layCourse 77 = .ok (.iload 8, 2) := by decide +kernel
theorem dX1_layCourse_79 : decode cX1_layCourse 79 = .ok (.invokevirtual 84, 3) := by decide +kernel
theorem dX1_layCourse_82 : decode cX1_layCourse 82 = .ok (.ifCond .eq 47, 3) := by decide +kernel
theorem dX1_layCourse_85 : decode cX1_layCourse 85 = .ok (.aload_n 0, 1) := by decide +kernel
theorem dX1_layCourse_86 : decode cX1_layCourse 86 = .ok (.getfield 15, 3) := by decide +kernel
theorem dX1_layCourse_89 : decode cX1_layCourse 89 = .ok (.iload_n 3, 1) := by decide +kernel
theorem dX1_layCourse_90 : decode cX1_layCourse 90 = .ok (.iaload, 1) := by decide +kernel
theorem dX1_layCourse_91 : decode cX1_layCourse 91 = .ok (.iload 4, 2) := by decide +kernel
theorem dX1_layCourse_93 : decode cX1_layCourse 93 = .ok (.invokestatic 87, 3) := by decide +kernel
theorem dX1_layCourse_96 : decode cX1_layCourse 96 = .ok (.if_icmp .lt 33, 3) := by decide +kernel
theorem dX1_layCourse_99 : decode cX1_layCourse 99 = .ok (.aload_n 0, 1) := by decide +kernel
theorem dX1_layCourse_100 : decode cX1_layCourse 100 = .ok (.getfield 15, 3) := by decide +kernel
theorem dX1_layCourse_103 : decode cX1_layCourse 103 = .ok (.iload_n 3, 1) := by decide +kernel
theorem dX1_layCourse_104 : decode cX1_layCourse 104 = .ok (.dup2, 1) := by decide +kernel
theorem dX1_layCourse_105 : decode cX1_layCourse 105 = .ok (.iaload, 1) := by decide +kernel
theorem dX1_layCourse_106 : decode cX1_layCourse 106 = .ok (.iload 4, 2) := by decide +kernel
theorem dX1_layCourse_108 : decode cX1_layCourse 108 = .ok (.invokestatic 87, 3) := by decide +kernel
theorem dX1_layCourse_111 : decode cX1_layCourse 111 = .ok (.isub, 1) := by decide +kernel
theorem dX1_layCourse_112 : decode cX1_layCourse 112 = .ok (.iastore, 1) := by decide +kernel
theorem dX1_layCourse_113 : decode cX1_layCourse 113 = .ok (.aload 6, 2) := by decide +kernel
theorem dX1_layCourse_115 : decode cX1_layCourse 115 = .ok (.iload_n 2, 1) := by decide +kernel
theorem dX1_layCourse_116 : decode cX1_layCourse 116 = .ok (.iload 8, 2) := by decide +kernel
theorem dX1_layCourse_118 : decode cX1_layCourse 118 = .ok (.iload_n 3, 1) := by decide +kernel
theorem dX1_layCourse_119 : decode cX1_layCourse 119 = .ok (.iload 4, 2) := by decide +kernel
theorem dX1_layCourse_121 : decode cX1_layCourse 121 = .ok (.iload 5, 2) := by decide +kernel
theorem dX1_layCourse_123 : decode cX1_layCourse 123 = .ok (.invokevirtual 93, 3) := by decide +kernel
theorem dX1_layCourse_126 : decode cX1_layCourse 126 = .ok (.iinc 7 1, 3) := by decide +kernel
theorem dX1_layCourse_129 : decode cX1_layCourse 129 = .ok (.iinc 8 1, 3) := by decide +kernel
theorem dX1_layCourse_132 : decode cX1_layCourse 132 = .ok (.goto (-68), 3) := by decide +kernel
theorem dX1_layCourse_135 : decode cX1_layCourse 135 = .ok (.iload 7, 2) := by decide +kernel
theorem dX1_layCourse_137 : decode cX1_layCourse 137 = .ok (.ireturn, 1) := by decide +kernel
set_option maxRecDepth 20000 in
theorem ggX1_mend_X1_roofAt : GoodIn wsX1_mend wsX1_roofAt := goodIn_r _ [10, 11, 12, 13, 9, 14, 58, 59, 60, 61, 62, 63, 64] (by decide +kernel) (by decide +kernel)
set_option maxRecDepth 20000 in
theorem gX1_mend_X1_roofAt : GoodIn wsX1_mend (wsV RX1 69 RX1 yX1_roofAt wsX1_roofAt) := goodIn_app (goodIn_of _ (by decide +kernel)) ggX1_mend_X1_roofAt
set_option maxRecDepth 20000 in
theorem ggX1_mend_X0_hasPlace : GoodIn wsX1_mend wsX0_hasPlace := goodIn_r _ [19, 20, 21, 22, 23, 18, 24, 25, 65, 66, 67, 68, 69, 70, 71, 72, 73, 74] (by decide +kernel) (by decide +kernel)
set_option maxRecDepth 20000 in
theorem gX1_mend_X0_hasPlace : GoodIn wsX1_mend (wsV RX1 73 RX0 yX0_hasPlace wsX0_hasPlace) := goodIn_app (goodIn_of _ (by decide +kernel)) ggX1_mend_X0_hasPlace
set_option maxRecDepth 20000 in
theorem ggX1_mend_X0_kindAt : GoodIn wsX1_mend wsX0_kindAt := goodIn_r _ [29, 30, 31, 32, 33, 18, 34, 35, 36, 37, 38, 25, 20, 39, 40, 41, 42, 43, 65, 66, 67, 68, 69, 70, 71, 72, 73, 74] (by decide +kernel) (by decide +kernel)
set_option maxRecDepth 20000 in
theorem gX1_mend_X0_kindAt : GoodIn wsX1_mend (wsV RX1 108 RX0 yX0_kindAt wsX0_kindAt) := goodIn_app (goodIn_of _ (by decide +kernel)) ggX1_mend_X0_kindAt
set_option maxRecDepth 20000 in
theorem ggX1_mend_X1_isKind : GoodIn wsX1_mend wsX1_isKind := goodIn_r _ [46, 12, 13, 9, 14] (by decide +kernel) (by decide +kernel)
set_option maxRecDepth 20000 in
theorem gX1_mend_X1_isKind : GoodIn wsX1_mend (va_wsS RX1 52 yX1_isKind wsX1_isKind) := goodIn_app (goodIn_of _ (by decide +kernel)) ggX1_mend_X1_isKind
set_option maxRecDepth 20000 in
theorem ggX1_mend_X0_improve : GoodIn wsX1_mend wsX0_improve := goodIn_r _ [50, 51, 52, 53, 54, 55, 56, 39, 31, 32, 33, 18, 34, 35, 36, 37, 38, 25, 20, 40, 41, 42, 43, 65, 66, 67, 68, 69, 70, 71, 72, 73, 74] (by decide +kernel) (by decide +kernel)
set_option maxRecDepth 20000 in
theorem gX1_mend_X0_improve : GoodIn wsX1_mend (wsV RX1 114 RX0 yX0_improve wsX0_improve) := goodIn_app (goodIn_of _ (by decide +kernel)) ggX1_mend_X0_improve
set_option maxRecDepth 20000 in
theorem ggX1_mend_X0_thicknessAt : GoodIn wsX1_mend wsX0_thicknessAt := goodIn_r _ [38, 25, 20, 39, 65, 66, 67, 68, 69, 70, 71, 72, 73, 74] (by decide +kernel) (by decide +kernel)
set_option maxRecDepth 20000 in
theorem gX1_mend_X0_thicknessAt : GoodIn wsX1_mend (wsV RX1 118 RX0 yX0_thicknessAt wsX0_thicknessAt) := goodIn_app (goodIn_of _ (by decide +kernel)) ggX1_mend_X0_thicknessAt
theorem dX1_mend_0 : decode cX1_mend 0 = .ok (.aload_n 0, 1) := by decide +kernel
theorem dX1_mend_1 : decode cX1_mend 1 = .ok (.iload_n 1, 1) := by decide +kernel
theorem dX1_mend_2 : decode cX1_mend 2 = .ok (.invokevirtual 69, 3) := by decide +kernel
theorem dX1_mend_5 : decode cX1_mend 5 = .ok (.astore 4, 2) := by decide +kernel
theorem dX1_mend_7 : decode cX1_mend 7 = .ok (.aload 4, 2) := by decide +kernel
theorem dX1_mend_9 : decode cX1_mend 9 = .ok (.ifnull 13, 3) := by decide +kernel
theorem dX1_mend_12 : decode cX1_mend 12 = .ok (.aload 4, 2) := by decide +kernel
theorem dX1_mend_14 : decode cX1_mend 14 = .ok (.iload_n 2, 1) := by decide +kernel
theorem dX1_mend_15 : decode cX1_mend 15 = .ok (.iload_n 3, 1) := by decide +kernel
theorem dX1_mend_16 : decode cX1_mend 16 = .ok (.invokevirtual 73, 3) := by decide +kernel
theorem dX1_mend_19 : decode cX1_mend 19 = .ok (.ifCond .ne 13, 3) := by decide +kernel
theorem dX1_mend_22 : decode cX1_mend 22 = .ok (.new 56, 3) := by decide +kernel
theorem dX1_mend_25 : decode cX1_mend 25 = .ok (.dup, 1) := by decide +kernel
theorem dX1_mend_26 : decode cX1_mend 26 = .ok (.ldc 106, 2) := by decide +kernel
theorem dX1_mend_28 : decode cX1_mend 28 = .ok (.invokespecial 60, 3) := by decide +kernel
theorem dX1_mend_31 : decode cX1_mend 31 = .ok (.athrow, 1) := by decide +kernel
theorem dX1_mend_32 : decode cX1_mend 32 = .ok (.aload 4, 2) := by decide +kernel
theorem dX1_mend_34 : decode cX1_mend 34 = .ok (.iload_n 2, 1) := by decide +kernel
theorem dX1_mend_35 : decode cX1_mend 35 = .ok (.iload_n 3, 1) := by decide +kernel
theorem dX1_mend_36 : decode cX1_mend 36 = .ok (.invokevirtual 108, 3) := by decide +kernel
theorem dX1_mend_39 : decode cX1_mend 39 = .ok (.istore 5, 2) := by decide +kernel
theorem dX1_mend_41 : decode cX1_mend 41 = .ok (.iload 5, 2) := by decide +kernel
theorem dX1_mend_43 : decode cX1_mend 43 = .ok (.invokestatic 52, 3) := by decide +kernel
theorem dX1_mend_46 : decode cX1_mend 46 = .ok (.ifCond .eq 14, 3) := by decide +kernel
theorem dX1_mend_49 : decode cX1_mend 49 = .ok (.aload_n 0, 1) := by decide +kernel
theorem dX1_mend_50 : decode cX1_mend 50 = .ok (.getfield 15, 3) := by decide +kernel
theorem dX1_mend_53 : decode cX1_mend 53 = .ok (.iload 5, 2) := by decide +kernel
theorem dX1_mend_55 : decode cX1_mend 55 = .ok (.iaload, 1) := by decide +kernel
theorem dX1_mend_56 : decode cX1_mend 56 = .ok (.iconst 3, 1) := by decide +kernel
theorem dX1_mend_57 : decode cX1_mend 57 = .ok (.if_icmp .ge 13, 3) := by decide +kernel
theorem dX1_mend_60 : decode cX1_mend 60 = .ok (.new 47, 3) := by decide +kernel
theorem dX1_mend_63 : decode cX1_mend 63 = .ok (.dup, 1) := by decide +kernel
theorem dX1_mend_64 : decode cX1_mend 64 = .ok (.ldc 112, 2) := by decide +kernel
theorem dX1_mend_66 : decode cX1_mend 66 = .ok (.invokespecial 51, 3) := by decide +kernel
theorem dX1_mend_69 : decode cX1_mend 69 = .ok (.athrow, 1) := by decide +kernel
theorem dX1_mend_70 : decode cX1_mend 70 = .ok (.aload_n 0, 1) := by decide +kernel
theorem dX1_mend_71 : decode cX1_mend 71 = .ok (.getfield 15, 3) := by decide +kernel
theorem dX1_mend_74 : decode cX1_mend 74 = .ok (.iload 5, 2) := by decide +kernel
theorem dX1_mend_76 : decode cX1_mend 76 = .ok (.dup2, 1) := by decide +kernel
theorem dX1_mend_77 : decode cX1_mend 77 = .ok (.iaload, 1) := by decide +kernel
theorem dX1_mend_78 : decode cX1_mend 78 = .ok (.iconst 3, 1) := by decide +kernel
theorem dX1_mend_79 : decode cX1_mend 79 = .ok (.isub, 1) := by decide +kernel
theorem dX1_mend_80 : decode cX1_mend 80 = .ok (.iastore, 1) := by decide +kernel
theorem dX1_mend_81 : decode cX1_mend 81 = .ok (.aload 4, 2) := by decide +kernel
theorem dX1_mend_83 : decode cX1_mend 83 = .ok (.iload_n 2, 1) := by decide +kernel
theorem dX1_mend_84 : decode cX1_mend 84 = .ok (.iload_n 3, 1) := by decide +kernel
theorem dX1_mend_85 : decode cX1_mend 85 = .ok (.invokevirtual 114, 3) := by decide +kernel
theorem dX1_mend_88 : decode cX1_mend 88 = .ok (.aload 4, 2) := by decide +kernel
theorem dX1_mend_90 : decode cX1_mend 90 = .ok (.iload_n 2, 1) := by decide +kernel
theorem dX1_mend_91 : decode cX1_mend 91 = .ok (.iload_n 3, 1) := by decide +kernel
theorem dX1_mend_92 : decode cX1_mend 92 = .ok (.invokevirtual 118, 3) := by decide +kernel
theorem dX1_mend_95 : decode cX1_mend 95 = .ok (.ireturn, 1) := by decide +kernel
set_option maxRecDepth 20000 in
theorem ggX1_bind_X1_roofAt : GoodIn wsX1_bind wsX1_roofAt := goodIn_r _ [10, 11, 12, 13, 9, 14, 26, 27, 28, 29, 30, 31, 32] (by decide +kernel) (by decide +kernel)
set_option maxRecDepth 20000 in
theorem gX1_bind_X1_roofAt : GoodIn wsX1_bind (wsV RX1 69 RX1 yX1_roofAt wsX1_roofAt) := goodIn_app (goodIn_of _ (by decide +kernel)) ggX1_bind_X1_roofAt
set_option maxRecDepth 20000 in
theorem ggX1_bind_X0_wide : GoodIn wsX1_bind wsX0_wide := goodIn_r _ [19, 20, 33, 34, 35, 36, 37, 38, 39, 40, 41, 42] (by decide +kernel) (by decide +kernel)
set_option maxRecDepth 20000 in
theorem gX1_bind_X0_wide : GoodIn wsX1_bind (wsV RX1 102 RX0 yX0_wide wsX0_wide) := goodIn_app (goodIn_of _ (by decide +kernel)) ggX1_bind_X0_wide
set_option maxRecDepth 20000 in
theorem ggX1_bind_X0_renewRidge : GoodIn wsX1_bind wsX0_renewRidge := goodIn_r _ [24, 25, 33, 34, 35, 36, 37, 38, 39, 40, 41, 42] (by decide +kernel) (by decide +kernel)
set_option maxRecDepth 20000 in
theorem gX1_bind_X0_renewRidge : GoodIn wsX1_bind (wsV RX1 125 RX0 yX0_renewRidge wsX0_renewRidge) := goodIn_app (goodIn_of _ (by decide +kernel)) ggX1_bind_X0_renewRidge
theorem dX1_bind_0 : decode cX1_bind 0 = .ok (.aload_n 0, 1) := by decide +kernel
theorem dX1_bind_1 : decode cX1_bind 1 = .ok (.iload_n 1, 1) := by decide +kernel
theorem dX1_bind_2 : decode cX1_bind 2 = .ok (.invokevirtual 69, 3) := by decide +kernel
theorem dX1_bind_5 : decode cX1_bind 5 = .ok (.astore_n 2, 1) := by decide +kernel
theorem dX1_bind_6 : decode cX1_bind 6 = .ok (.aload_n 2, 1) := by decide +kernel
theorem dX1_bind_7 : decode cX1_bind 7 = .ok (.ifnonnull 13, 3) := by decide +kernel
theorem dX1_bind_10 : decode cX1_bind 10 = .ok (.new 56, 3) := by decide +kernel
theorem dX1_bind_13 : decode cX1_bind 13 = .ok (.dup, 1) := by decide +kernel
theorem dX1_bind_14 : decode cX1_bind 14 = .ok (.ldc 121, 2) := by decide +kernel
theorem dX1_bind_16 : decode cX1_bind 16 = .ok (.invokespecial 60, 3) := by decide +kernel
theorem dX1_bind_19 : decode cX1_bind 19 = .ok (.athrow, 1) := by decide +kernel
theorem dX1_bind_20 : decode cX1_bind 20 = .ok (.aload_n 0, 1) := by decide +kernel
theorem dX1_bind_21 : decode cX1_bind 21 = .ok (.getfield 15, 3) := by decide +kernel
theorem dX1_bind_24 : decode cX1_bind 24 = .ok (.iconst 2, 1) := by decide +kernel
theorem dX1_bind_25 : decode cX1_bind 25 = .ok (.iaload, 1) := by decide +kernel
theorem dX1_bind_26 : decode cX1_bind 26 = .ok (.aload_n 2, 1) := by decide +kernel
theorem dX1_bind_27 : decode cX1_bind 27 = .ok (.invokevirtual 102, 3) := by decide +kernel
theorem dX1_bind_30 : decode cX1_bind 30 = .ok (.if_icmp .ge 13, 3) := by decide +kernel
theorem dX1_bind_33 : decode cX1_bind 33 = .ok (.new 47, 3) := by decide +kernel
theorem dX1_bind_36 : decode cX1_bind 36 = .ok (.dup, 1) := by decide +kernel
theorem dX1_bind_37 : decode cX1_bind 37 = .ok (.ldc 123, 2) := by decide +kernel
theorem dX1_bind_39 : decode cX1_bind 39 = .ok (.invokespecial 51, 3) := by decide +kernel
theorem dX1_bind_42 : decode cX1_bind 42 = .ok (.athrow, 1) := by decide +kernel
theorem dX1_bind_43 : decode cX1_bind 43 = .ok (.aload_n 0, 1) := by decide +kernel
theorem dX1_bind_44 : decode cX1_bind 44 = .ok (.getfield 15, 3) := by decide +kernel
theorem dX1_bind_47 : decode cX1_bind 47 = .ok (.iconst 2, 1) := by decide +kernel
theorem dX1_bind_48 : decode cX1_bind 48 = .ok (.dup2, 1) := by decide +kernel
theorem dX1_bind_49 : decode cX1_bind 49 = .ok (.iaload, 1) := by decide +kernel
theorem dX1_bind_50 : decode cX1_bind 50 = .ok (.aload_n 2, 1) := by decide +kernel
theorem dX1_bind_51 : decode cX1_bind 51 = .ok (.invokevirtual 102, 3) := by decide +kernel
theorem dX1_bind_54 : decode cX1_bind 54 = .ok (.isub, 1) := by decide +kernel
theorem dX1_bind_55 : decode cX1_bind 55 = .ok (.iastore, 1) := by decide +kernel
theorem dX1_bind_56 : decode cX1_bind 56 = .ok (.aload_n 2, 1) := by decide +kernel
theorem dX1_bind_57 : decode cX1_bind 57 = .ok (.invokevirtual 125, 3) := by decide +kernel
theorem dX1_bind_60 : decode cX1_bind 60 = .ok (.ireturn, 1) := by decide +kernel
set_option maxRecDepth 20000 in
theorem ggX1_yealm_X1_roofAt : GoodIn wsX1_yealm wsX1_roofAt := goodIn_r _ [7, 8, 9, 10, 6, 11, 51, 52, 53, 54, 55, 56, 57] (by decide +kernel) (by decide +kernel)
set_option maxRecDepth 20000 in
theorem gX1_yealm_X1_roofAt : GoodIn wsX1_yealm (wsV RX1 69 RX1 yX1_roofAt wsX1_roofAt) := goodIn_app (goodIn_of _ (by decide +kernel)) ggX1_yealm_X1_roofAt
set_option maxRecDepth 20000 in
theorem ggX1_yealm_X0_hasPlace : GoodIn wsX1_yealm wsX0_hasPlace := goodIn_r _ [16, 17, 18, 19, 20, 15, 21, 22, 58, 59, 60, 61, 62, 63, 64, 65, 66, 67] (by decide +kernel) (by decide +kernel)
set_option maxRecDepth 20000 in
theorem gX1_yealm_X0_hasPlace : GoodIn wsX1_yealm (wsV RX1 73 RX0 yX0_hasPlace wsX0_hasPlace) := goodIn_app (goodIn_of _ (by decide +kernel)) ggX1_yealm_X0_hasPlace
set_option maxRecDepth 20000 in
theorem ggX1_yealm_X1_isWithin : GoodIn wsX1_yealm wsX1_isWithin := goodIn_r _ [11] (by decide +kernel) (by decide +kernel)
set_option maxRecDepth 20000 in
theorem gX1_yealm_X1_isWithin : GoodIn wsX1_yealm (va_wsS RX1 32 yX1_isWithin wsX1_isWithin) := goodIn_app (goodIn_of _ (by decide +kernel)) ggX1_yealm_X1_isWithin
set_option maxRecDepth 20000 in
theorem ggX1_yealm_X0_tellYealm : GoodIn wsX1_yealm wsX0_tellYealm := goodIn_r _ [26, 27, 28, 29, 30, 31, 32, 33, 15, 34, 35, 36, 37, 38, 22, 17, 39, 40, 41, 42, 43, 44, 45, 46, 47, 48, 49, 50, 58, 59, 60, 61, 62, 63, 64, 65, 66, 67] (by decide +kernel) (by decide +kernel)
set_option maxRecDepth 20000 in
theorem gX1_yealm_X0_tellYealm : GoodIn wsX1_yealm (wsV RX1 130 RX0 yX0_tellYealm wsX0_tellYealm) := goodIn_app (goodIn_of _ (by decide +kernel)) ggX1_yealm_X0_tellYealm
theorem dX1_yealm_0 : decode cX1_yealm 0 = .ok (.aload_n 0, 1) := by decide +kernel
theorem dX1_yealm_1 : decode cX1_yealm 1 = .ok (.iload_n 1, 1) := by decide +kernel
theorem dX1_yealm_2 : decode cX1_yealm 2 = .ok (.invokevirtual 69, 3) := by decide +kernel
theorem dX1_yealm_5 : decode cX1_yealm 5 = .ok (.astore 5, 2) := by decide +kernel
theorem dX1_yealm_7 : decode cX1_yealm 7 = .ok (.aload 5, 2) := by decide +kernel
theorem dX1_yealm_9 : decode cX1_yealm 9 = .ok (.ifnull 23, 3) := by decide +kernel
theorem dX1_yealm_12 : decode cX1_yealm 12 = .ok (.aload 5, 2) := by decide +kernel
theorem dX1_yealm_14 : decode cX1_yealm 14 = .ok (.iload_n 2, 1) := by decide +kernel
theorem dX1_yealm_15 : decode cX1_yealm 15 = .ok (.iload_n 3, 1) := by decide +kernel
theorem dX1_yealm_16 : decode cX1_yealm 16 = .ok (.invokevirtual 73, 3) := by decide +kernel
theorem dX1_yealm_19 : decode cX1_yealm 19 = .ok (.ifCond .eq 13, 3) := by decide +kernel
theorem dX1_yealm_22 : decode cX1_yealm 22 = .ok (.iload 4, 2) := by decide +kernel
theorem dX1_yealm_24 : decode cX1_yealm 24 = .ok (.iconst 0, 1) := by decide +kernel
theorem dX1_yealm_25 : decode cX1_yealm 25 = .ok (.iconst 5, 1) := by decide +kernel
theorem dX1_yealm_26 : decode cX1_yealm 26 = .ok (.invokestatic 32, 3) := by decide +kernel
theorem dX1_yealm_29 : decode cX1_yealm 29 = .ok (.ifCond .ne 13, 3) := by decide +kernel
theorem dX1_yealm_32 : decode cX1_yealm 32 = .ok (.new 56, 3) := by decide +kernel
theorem dX1_yealm_35 : decode cX1_yealm 35 = .ok (.dup, 1) := by decide +kernel
theorem dX1_yealm_36 : decode cX1_yealm 36 = .ok (.ldc 128, 2) := by decide +kernel
theorem dX1_yealm_38 : decode cX1_yealm 38 = .ok (.invokespecial 60, 3) := by decide +kernel
theorem dX1_yealm_41 : decode cX1_yealm 41 = .ok (.athrow, 1) := by decide +kernel
theorem dX1_yealm_42 : decode cX1_yealm 42 = .ok (.aload 5, 2) := by decide +kernel
theorem dX1_yealm_44 : decode cX1_yealm 44 = .ok (.iload_n 2, 1) := by decide +kernel
theorem dX1_yealm_45 : decode cX1_yealm 45 = .ok (.iload_n 3, 1) := by decide +kernel
theorem dX1_yealm_46 : decode cX1_yealm 46 = .ok (.iload 4, 2) := by decide +kernel
theorem dX1_yealm_48 : decode cX1_yealm 48 = .ok (.invokevirtual 130, 3) := by decide +kernel
theorem dX1_yealm_51 : decode cX1_yealm 51 = .ok (.ireturn, 1) := by decide +kernel
set_option maxRecDepth 20000 in
theorem ggX1_roof_X1_roofAt : GoodIn wsX1_roof wsX1_roofAt := goodIn_r _ [7, 8, 9, 10, 6, 11, 48, 49, 50, 51, 52, 53, 54] (by decide +kernel) (by decide +kernel)
set_option maxRecDepth 20000 in
theorem gX1_roof_X1_roofAt : GoodIn wsX1_roof (wsV RX1 69 RX1 yX1_roofAt wsX1_roofAt) := goodIn_app (goodIn_of _ (by decide +kernel)) ggX1_roof_X1_roofAt
set_option maxRecDepth 20000 in
theorem ggX1_roof_X1_isWithin : GoodIn wsX1_roof wsX1_isWithin := goodIn_r _ [11] (by decide +kernel) (by decide +kernel)
set_option maxRecDepth 20000 in
theorem gX1_roof_X1_isWithin : GoodIn wsX1_roof (va_wsS RX1 32 yX1_isWithin wsX1_isWithin) := goodIn_app (goodIn_of _ (by decide +kernel)) ggX1_roof_X1_isWithin
set_option maxRecDepth 20000 in
theorem ggX1_roof_X0_tell : GoodIn wsX1_roof wsX0_tell := goodIn_r _ [16, 17, 18, 19, 20, 21, 22, 23, 24, 25, 15, 26, 27, 28, 29, 30, 31, 32, 33, 34, 35, 36, 37, 38, 39, 40, 41, 42, 43, 44, 45, 46, 47, 55, 56, 57, 58, 59, 60, 61, 62, 63, 64] (by decide +kernel) (by decide +kernel)
set_option maxRecDepth 20000 in
theorem gX1_roof_X0_tell : GoodIn wsX1_roof (wsV RX1 136 RX0 yX0_tell wsX0_tell) := goodIn_app (goodIn_of _ (by decide +kernel)) ggX1_roof_X0_tell
theorem dX1_roof_0 : decode cX1_roof 0 = .ok (.aload_n 0, 1) := by decide +kernel
theorem dX1_roof_1 : decode cX1_roof 1 = .ok (.iload_n 1, 1) := by decide +kernel
theorem dX1_roof_2 : decode cX1_roof 2 = .ok (.invokevirtual 69, 3) := by decide +kernel
theorem dX1_roof_5 : decode cX1_roof 5 = .ok (.astore_n 3, 1) := by decide +kernel
theorem dX1_roof_6 : decode cX1_roof 6 = .ok (.aload_n 3, 1) := by decide +kernel
theorem dX1_roof_7 : decode cX1_roof 7 = .ok (.ifnull 13, 3) := by decide +kernel
theorem dX1_roof_10 : decode cX1_roof 10 = .ok (.iload_n 2, 1) := by decide +kernel
theorem dX1_roof_11 : decode cX1_roof 11 = .ok (.iconst 0, 1) := by decide +kernel
theorem dX1_roof_12 : decode cX1_roof 12 = .ok (.bipush 8, 2) := by decide +kernel
theorem dX1_roof_14 : decode cX1_roof 14 = .ok (.invokestatic 32, 3) := by decide +kernel
theorem dX1_roof_17 : decode cX1_roof 17 = .ok (.ifCond .ne 13, 3) := by decide +kernel
theorem dX1_roof_20 : decode cX1_roof 20 = .ok (.new 56, 3) := by decide +kernel
theorem dX1_roof_23 : decode cX1_roof 23 = .ok (.dup, 1) := by decide +kernel
theorem dX1_roof_24 : decode cX1_roof 24 = .ok (.ldc 134, 2) := by decide +kernel
theorem dX1_roof_26 : decode cX1_roof 26 = .ok (.invokespecial 60, 3) := by decide +kernel
theorem dX1_roof_29 : decode cX1_roof 29 = .ok (.athrow, 1) := by decide +kernel
theorem dX1_roof_30 : decode cX1_roof 30 = .ok (.aload_n 3, 1) := by decide +kernel
theorem dX1_roof_31 : decode cX1_roof 31 = .ok (.iload_n 2, 1) := by decide +kernel
theorem dX1_roof_32 : decode cX1_roof 32 = .ok (.invokevirtual 136, 3) := by decide +kernel
theorem dX1_roof_35 : decode cX1_roof 35 = .ok (.ireturn, 1) := by decide +kernel
set_option maxRecDepth 20000 in
theorem ggX1_count_X1_isWithin : GoodIn wsX1_count wsX1_isWithin := goodIn_r _ [6] (by decide +kernel) (by decide +kernel)
set_option maxRecDepth 20000 in
theorem gX1_count_X1_isWithin : GoodIn wsX1_count (va_wsS RX1 32 yX1_isWithin wsX1_isWithin) := goodIn_app (goodIn_of _ (by decide +kernel)) ggX1_count_X1_isWithin
set_option maxRecDepth 20000 in
theorem ggX1_count_X1_tally : GoodIn wsX1_count wsX1_tally := goodIn_r _ [10, 11, 12, 13, 14, 15, 16, 5, 17, 18, 19, 20, 21, 22, 23, 24, 25, 26, 27, 28, 29, 30, 31, 32, 33, 34, 35, 36, 37, 38, 39, 40, 41, 42, 43, 44, 45, 46, 47, 48, 49, 50, 51, 52, 53, 54, 55, 56, 57, 58, 59, 60, 61, 62, 63, 64, 65, 66, 67, 68, 69, 70, 71, 72, 73, 74, 75, 76, 77, 78, 79, 80, 81, 82, 83, 84, 85, 86, 87, 88, 89] (by decide +kernel) (by decide +kernel)
set_option maxRecDepth 20000 in
theorem gX1_count_X1_tally : GoodIn wsX1_count (wsV RX1 141 RX1 yX1_tally wsX1_tally) := goodIn_app (goodIn_of _ (by decide +kernel)) ggX1_count_X1_tally
theorem dX1_count_0 : decode cX1_count 0 = .ok (.iload_n 1, 1) := by decide +kernel
theorem dX1_count_1 : decode cX1_count 1 = .ok (.iconst 0, 1) := by decide +kernel
theorem dX1_count_2 : decode cX1_count 2 = .ok (.bipush 8, 2) := by decide +kernel
theorem dX1_count_4 : decode cX1_count 4 = .ok (.invokestatic 32, 3) := by decide +kernel
theorem dX1_count_7 : decode cX1_count 7 = .ok (.ifCond .ne 13, 3) := by decide +kernel
theorem dX1_count_10 : decode cX1_count 10 = .ok (.new 56, 3) := by decide +kernel
theorem dX1_count_13 : decode cX1_count 13 = .ok (.dup, 1) := by decide +kernel
theorem dX1_count_14 : decode cX1_count 14 = .ok (.ldc 139, 2) := by decide +kernel
theorem dX1_count_16 : decode cX1_count 16 = .ok (.invokespecial 60, 3) := by decide +kernel
theorem dX1_count_19 : decode cX1_count 19 = .ok (.athrow, 1) := by decide +kernel
theorem dX1_count_20 : decode cX1_count 20 = .ok (.aload_n 0, 1) := by decide +kernel
theorem dX1_count_21 : decode cX1_count 21 = .ok (.iload_n 1, 1) := by decide +kernel
theorem dX1_count_22 : decode cX1_count 22 = .ok (.invokevirtual 141, 3) := by decide +kernel
theorem dX1_count_25 : decode cX1_count 25 = .ok (.ireturn, 1) := by decide +kernel
set_option maxRecDepth 20000 in
theorem ggX1_pass_X1_isWithin : GoodIn wsX1_pass wsX1_isWithin := goodIn_r _ [8] (by decide +kernel) (by decide +kernel)
set_option maxRecDepth 20000 in
theorem gX1_pass_X1_isWithin : GoodIn wsX1_pass (va_wsS RX1 32 yX1_isWithin wsX1_isWithin) := goodIn_app (goodIn_of _ (by decide +kernel)) ggX1_pass_X1_isWithin
set_option maxRecDepth 20000 in
theorem ggX1_pass_X1_rainAhead : GoodIn wsX1_pass wsX1_rainAhead := goodIn_r _ [12, 13, 14, 15, 16, 7, 17, 4, 18, 19, 20, 21, 101, 102, 103, 104, 105, 106, 107] (by decide +kernel) (by decide +kernel)
set_option maxRecDepth 20000 in
theorem gX1_pass_X1_rainAhead : GoodIn wsX1_pass (wsV RX1 146 RX1 yX1_rainAhead wsX1_rainAhead) := goodIn_app (goodIn_of _ (by decide +kernel)) ggX1_pass_X1_rainAhead
set_option maxRecDepth 20000 in
theorem ggX1_pass_X1_stormAhead : GoodIn wsX1_pass wsX1_stormAhead := goodIn_r _ [25, 26, 14, 15, 16, 7, 17, 4, 18, 19, 20, 21, 101, 102, 103, 104, 105, 106, 107] (by decide +kernel) (by decide +kernel)
set_option maxRecDepth 20000 in
theorem gX1_pass_X1_stormAhead : GoodIn wsX1_pass (wsV RX1 149 RX1 yX1_stormAhead wsX1_stormAhead) := goodIn_app (goodIn_of _ (by decide +kernel)) ggX1_pass_X1_stormAhead
set_option maxRecDepth 20000 in
theorem ggX1_pass_X0_liveMonth : GoodIn wsX1_pass wsX0_liveMonth := goodIn_r _ [31, 32, 33, 34, 35, 30, 36, 37, 38, 39, 40, 41, 42, 43, 44, 45, 46, 47, 48, 49, 50, 51, 52, 53, 54, 55, 56, 57, 58, 59, 60, 61, 62, 63, 64, 65, 66, 67, 68, 69, 70, 71, 72, 73, 74, 75, 76, 77, 78, 79, 80, 81, 82, 83, 84, 85, 86, 87, 88, 89, 90, 91, 92, 93, 94, 95, 96, 97, 98, 99, 100, 108, 109, 110, 111, 112, 113, 114, 115, 116, 117] (by decide +kernel) (by decide +kernel)
set_option maxRecDepth 20000 in
theorem gX1_pass_X0_liveMonth : GoodIn wsX1_pass (wsV RX1 152 RX0 yX0_liveMonth wsX0_liveMonth) := goodIn_app (goodIn_of _ (by decide +kernel)) ggX1_pass_X0_liveMonth
theorem dX1_pass_0 : decode cX1_pass 0 = .ok (.iload_n 1, 1) := by decide +kernel
theorem dX1_pass_1 : decode cX1_pass 1 = .ok (.iconst 1, 1) := by decide +kernel
theorem dX1_pass_2 : decode cX1_pass 2 = .ok (.bipush 120, 2) := by decide +kernel
theorem dX1_pass_4 : decode cX1_pass 4 = .ok (.invokestatic 32, 3) := by decide +kernel
theorem dX1_pass_7 : decode cX1_pass 7 = .ok (.ifCond .ne 13, 3) := by decide +kernel
theorem dX1_pass_10 : decode cX1_pass 10 = .ok (.new 36, 3) := by decide +kernel
theorem dX1_pass_13 : decode cX1_pass 13 = .ok (.dup, 1) := by decide +kernel
theorem dX1_pass_14 : decode cX1_pass 14 = .ok (.ldc 144, 2) := by decide +kernel
theorem dX1_pass_16 : decode cX1_pass 16 = .ok (.invokespecial 40, 3) := by decide +kernel
theorem dX1_pass_19 : decode cX1_pass 19 = .ok (.athrow, 1) := by decide +kernel
theorem dX1_pass_20 : decode cX1_pass 20 = .ok (.iconst 0, 1) := by decide +kernel
theorem dX1_pass_21 : decode cX1_pass 21 = .ok (.istore_n 2, 1) := by decide +kernel
theorem dX1_pass_22 : decode cX1_pass 22 = .ok (.iconst 0, 1) := by decide +kernel
theorem dX1_pass_23 : decode cX1_pass 23 = .ok (.istore_n 3, 1) := by decide +kernel
theorem dX1_pass_24 : decode cX1_pass 24 = .ok (.iload_n 3, 1) := by decide +kernel
theorem dX1_pass_25 : decode cX1_pass 25 = .ok (.iload_n 1, 1) := by decide +kernel
theorem dX1_pass_26 : decode cX1_pass 26 = .ok (.if_icmp .ge 67, 3) := by decide +kernel
theorem dX1_pass_29 : decode cX1_pass 29 = .ok (.iconst 0, 1) := by decide +kernel
theorem dX1_pass_30 : decode cX1_pass 30 = .ok (.istore 4, 2) := by decide +kernel
theorem dX1_pass_32 : decode cX1_pass 32 = .ok (.iload 4, 2) := by decide +kernel
theorem dX1_pass_34 : decode cX1_pass 34 = .ok (.bipush 6, 2) := by decide +kernel
theorem dX1_pass_36 : decode cX1_pass 36 = .ok (.if_icmp .ge 41, 3) := by decide +kernel
theorem dX1_pass_39 : decode cX1_pass 39 = .ok (.aload_n 0, 1) := by decide +kernel
theorem dX1_pass_40 : decode cX1_pass 40 = .ok (.getfield 11, 3) := by decide +kernel
theorem dX1_pass_43 : decode cX1_pass 43 = .ok (.iload 4, 2) := by decide +kernel
theorem dX1_pass_45 : decode cX1_pass 45 = .ok (.aaload, 1) := by decide +kernel
theorem dX1_pass_46 : decode cX1_pass 46 = .ok (.astore 5, 2) := by decide +kernel
theorem dX1_pass_48 : decode cX1_pass 48 = .ok (.aload 5, 2) := by decide +kernel
theorem dX1_pass_50 : decode cX1_pass 50 = .ok (.ifnull 21, 3) := by decide +kernel
theorem dX1_pass_53 : decode cX1_pass 53 = .ok (.iload_n 2, 1) := by decide +kernel
theorem dX1_pass_54 : decode cX1_pass 54 = .ok (.aload 5, 2) := by decide +kernel
theorem dX1_pass_56 : decode cX1_pass 56 = .ok (.aload_n 0, 1) := by decide +kernel
theorem dX1_pass_57 : decode cX1_pass 57 = .ok (.iconst 0, 1) := by decide +kernel
theorem dX1_pass_58 : decode cX1_pass 58 = .ok (.invokevirtual 146, 3) := by decide +kernel
theorem dX1_pass_61 : decode cX1_pass 61 = .ok (.aload_n 0, 1) := by decide +kernel
theorem dX1_pass_62 : decode cX1_pass 62 = .ok (.iconst 0, 1) := by decide +kernel
theorem dX1_pass_63 : decode cX1_pass 63 = .ok (.invokevirtual 149, 3) := by decide +kernel
theorem dX1_pass_66 : decode cX1_pass 66 = .ok (.invokevirtual 152, 3) := by decide +kernel
theorem dX1_pass_69 : decode cX1_pass 69 = .ok (.iadd, 1) := by decide +kernel
theorem dX1_pass_70 : decode cX1_pass 70 = .ok (.istore_n 2, 1) := by decide +kernel
theorem dX1_pass_71 : decode cX1_pass 71 = .ok (.iinc 4 1, 3) := by decide +kernel
theorem dX1_pass_74 : decode cX1_pass 74 = .ok (.goto (-42), 3) := by decide +kernel
theorem dX1_pass_77 : decode cX1_pass 77 = .ok (.aload_n 0, 1) := by decide +kernel
theorem dX1_pass_78 : decode cX1_pass 78 = .ok (.dup, 1) := by decide +kernel
theorem dX1_pass_79 : decode cX1_pass 79 = .ok (.getfield 155, 3) := by decide +kernel
theorem dX1_pass_82 : decode cX1_pass 82 = .ok (.iconst 1, 1) := by decide +kernel
theorem dX1_pass_83 : decode cX1_pass 83 = .ok (.iadd, 1) := by decide +kernel
theorem dX1_pass_84 : decode cX1_pass 84 = .ok (.putfield 155, 3) := by decide +kernel
theorem dX1_pass_87 : decode cX1_pass 87 = .ok (.iinc 3 1, 3) := by decide +kernel
theorem dX1_pass_90 : decode cX1_pass 90 = .ok (.goto (-66), 3) := by decide +kernel
theorem dX1_pass_93 : decode cX1_pass 93 = .ok (.iload_n 2, 1) := by decide +kernel
theorem dX1_pass_94 : decode cX1_pass 94 = .ok (.ireturn, 1) := by decide +kernel
set_option maxRecDepth 20000 in
theorem ggX1_tears_X1_roofAt : GoodIn wsX1_tears wsX1_roofAt := goodIn_r _ [9, 10, 11, 12, 8, 13, 52, 53, 54, 55, 56, 57, 58] (by decide +kernel) (by decide +kernel)
set_option maxRecDepth 20000 in
theorem gX1_tears_X1_roofAt : GoodIn wsX1_tears (wsV RX1 69 RX1 yX1_roofAt wsX1_roofAt) := goodIn_app (goodIn_of _ (by decide +kernel)) ggX1_tears_X1_roofAt
set_option maxRecDepth 20000 in
theorem ggX1_tears_X1_isWithin : GoodIn wsX1_tears wsX1_isWithin := goodIn_r _ [13] (by decide +kernel) (by decide +kernel)
set_option maxRecDepth 20000 in
theorem gX1_tears_X1_isWithin : GoodIn wsX1_tears (va_wsS RX1 32 yX1_isWithin wsX1_isWithin) := goodIn_app (goodIn_of _ (by decide +kernel)) ggX1_tears_X1_isWithin
set_option maxRecDepth 20000 in
theorem ggX1_tears_X0_wouldTearInAll : GoodIn wsX1_tears wsX0_wouldTearInAll := goodIn_r _ [18, 19, 20, 21, 22, 23, 17, 24, 25, 26, 27, 28, 29, 30, 31, 32, 33, 34, 35, 36, 37, 38, 39, 40, 41, 42, 43, 44, 45, 46, 47, 48, 49, 50, 51, 59, 60, 61, 62, 63, 64, 65, 66, 67, 68] (by decide +kernel) (by decide +kernel)
set_option maxRecDepth 20000 in
theorem gX1_tears_X0_wouldTearInAll : GoodIn wsX1_tears (wsV RX1 160 RX0 yX0_wouldTearInAll wsX0_wouldTearInAll) := goodIn_app (goodIn_of _ (by decide +kernel)) ggX1_tears_X0_wouldTearInAll
theorem dX1_tears_0 : decode cX1_tears 0 = .ok (.aload_n 0, 1) := by decide +kernel
theorem dX1_tears_1 : decode cX1_tears 1 = .ok (.iload_n 1, 1) := by decide +kernel
theorem dX1_tears_2 : decode cX1_tears 2 = .ok (.invokevirtual 69, 3) := by decide +kernel
theorem dX1_tears_5 : decode cX1_tears 5 = .ok (.astore_n 3, 1) := by decide +kernel
theorem dX1_tears_6 : decode cX1_tears 6 = .ok (.aload_n 3, 1) := by decide +kernel
theorem dX1_tears_7 : decode cX1_tears 7 = .ok (.ifnonnull 13, 3) := by decide +kernel
theorem dX1_tears_10 : decode cX1_tears 10 = .ok (.new 56, 3) := by decide +kernel
theorem dX1_tears_13 : decode cX1_tears 13 = .ok (.dup, 1) := by decide +kernel
theorem dX1_tears_14 : decode cX1_tears 14 = .ok (.ldc 121, 2) := by decide +kernel
theorem dX1_tears_16 : decode cX1_tears 16 = .ok (.invokespecial 60, 3) := by decide +kernel
theorem dX1_tears_19 : decode cX1_tears 19 = .ok (.athrow, 1) := by decide +kernel
theorem dX1_tears_20 : decode cX1_tears 20 = .ok (.iload_n 2, 1) := by decide +kernel
theorem dX1_tears_21 : decode cX1_tears 21 = .ok (.iconst 0, 1) := by decide +kernel
theorem dX1_tears_22 : decode cX1_tears 22 = .ok (.bipush 9, 2) := by decide +kernel
theorem dX1_tears_24 : decode cX1_tears 24 = .ok (.invokestatic 32, 3) := by decide +kernel
theorem dX1_tears_27 : decode cX1_tears 27 = .ok (.ifCond .ne 13, 3) := by decide +kernel
theorem dX1_tears_30 : decode cX1_tears 30 = .ok (.new 36, 3) := by decide +kernel
theorem dX1_tears_33 : decode cX1_tears 33 = .ok (.dup, 1) := by decide +kernel
theorem dX1_tears_34 : decode cX1_tears 34 = .ok (.ldc 158, 2) := by decide +kernel
theorem dX1_tears_36 : decode cX1_tears 36 = .ok (.invokespecial 40, 3) := by decide +kernel
theorem dX1_tears_39 : decode cX1_tears 39 = .ok (.athrow, 1) := by decide +kernel
theorem dX1_tears_40 : decode cX1_tears 40 = .ok (.aload_n 3, 1) := by decide +kernel
theorem dX1_tears_41 : decode cX1_tears 41 = .ok (.iload_n 2, 1) := by decide +kernel
theorem dX1_tears_42 : decode cX1_tears 42 = .ok (.invokevirtual 160, 3) := by decide +kernel
theorem dX1_tears_45 : decode cX1_tears 45 = .ok (.ireturn, 1) := by decide +kernel
set_option maxRecDepth 20000 in
theorem ggX1_holds_X1_roofAt : GoodIn wsX1_holds wsX1_roofAt := goodIn_r _ [8, 9, 10, 11, 7, 12, 122, 123, 124, 125, 126, 127, 128] (by decide +kernel) (by decide +kernel)
set_option maxRecDepth 20000 in
theorem gX1_holds_X1_roofAt : GoodIn wsX1_holds (wsV RX1 69 RX1 yX1_roofAt wsX1_roofAt) := goodIn_app (goodIn_of _ (by decide +kernel)) ggX1_holds_X1_roofAt
set_option maxRecDepth 20000 in
theorem ggX1_holds_X0_leaks : GoodIn wsX1_holds wsX0_leaks := goodIn_r _ [17, 18, 19, 20, 21, 22, 16, 23, 24, 25, 26, 27, 28, 29, 30, 31, 32, 129, 130, 131, 132, 133, 134, 135, 136, 137, 138] (by decide +kernel) (by decide +kernel)
set_option maxRecDepth 20000 in
theorem gX1_holds_X0_leaks : GoodIn wsX1_holds (wsV RX1 163 RX0 yX0_leaks wsX0_leaks) := goodIn_app (goodIn_of _ (by decide +kernel)) ggX1_holds_X0_leaks
set_option maxRecDepth 20000 in
theorem ggX1_holds_X0_becomeLike : GoodIn wsX1_holds wsX0_becomeLike := goodIn_r _ [36, 18, 19, 37, 38, 39, 40, 41, 42, 43, 28, 44, 45, 129, 130, 131, 132, 133, 134, 135, 136, 137, 138] (by decide +kernel) (by decide +kernel)
set_option maxRecDepth 20000 in
theorem gX1_holds_X0_becomeLike : GoodIn wsX1_holds (wsV RX1 166 RX0 yX0_becomeLike wsX0_becomeLike) := goodIn_app (goodIn_of _ (by decide +kernel)) ggX1_holds_X0_becomeLike
set_option maxRecDepth 20000 in
theorem ggX1_holds_X1_rainAhead : GoodIn wsX1_holds wsX1_rainAhead := goodIn_r _ [49, 50, 51, 52, 53, 7, 54, 55, 56, 57, 58, 59, 122, 123, 124, 125, 126, 127, 128] (by decide +kernel) (by decide +kernel)
set_option maxRecDepth 20000 in
theorem gX1_holds_X1_rainAhead : GoodIn wsX1_holds (wsV RX1 146 RX1 yX1_rainAhead wsX1_rainAhead) := goodIn_app (goodIn_of _ (by decide +kernel)) ggX1_holds_X1_rainAhead
set_option maxRecDepth 20000 in
theorem ggX1_holds_X1_stormAhead : GoodIn wsX1_holds wsX1_stormAhead := goodIn_r _ [63, 64, 51, 52, 53, 7, 54, 55, 56, 57, 58, 59, 122, 123, 124, 125, 126, 127, 128] (by decide +kernel) (by decide +kernel)
set_option maxRecDepth 20000 in
theorem gX1_holds_X1_stormAhead : GoodIn wsX1_holds (wsV RX1 149 RX1 yX1_stormAhead wsX1_stormAhead) := goodIn_app (goodIn_of _ (by decide +kernel)) ggX1_holds_X1_stormAhead
set_option maxRecDepth 20000 in
theorem ggX1_holds_X0_liveMonth : GoodIn wsX1_holds wsX0_liveMonth := goodIn_r _ [68, 18, 69, 70, 71, 16, 72, 73, 74, 75, 76, 77, 78, 19, 28, 79, 80, 81, 82, 29, 30, 31, 32, 24, 25, 26, 27, 83, 84, 85, 86, 87, 88, 89, 90, 45, 37, 39, 91, 92, 93, 94, 95, 96, 97, 98, 99, 100, 101, 102, 103, 104, 105, 106, 107, 108, 109, 110, 111, 112, 113, 44, 38, 114, 115, 116, 117, 118, 119, 120, 121, 129, 130, 131, 132, 133, 134, 135, 136, 137, 138] (by decide +kernel) (by decide +kernel)
set_option maxRecDepth 20000 in
theorem gX1_holds_X0_liveMonth : GoodIn wsX1_holds (wsV RX1 152 RX0 yX0_liveMonth wsX0_liveMonth) := goodIn_app (goodIn_of _ (by decide +kernel)) ggX1_holds_X0_liveMonth
theorem dX1_holds_0 : decode cX1_holds 0 = .ok (.aload_n 0, 1) := by decide +kernel
theorem dX1_holds_1 : decode cX1_holds 1 = .ok (.iload_n 1, 1) := by decide +kernel
theorem dX1_holds_2 : decode cX1_holds 2 = .ok (.invokevirtual 69, 3) := by decide +kernel
theorem dX1_holds_5 : decode cX1_holds 5 = .ok (.astore_n 2, 1) := by decide +kernel
theorem dX1_holds_6 : decode cX1_holds 6 = .ok (.aload_n 2, 1) := by decide +kernel
theorem dX1_holds_7 : decode cX1_holds 7 = .ok (.ifnonnull 13, 3) := by decide +kernel
theorem dX1_holds_10 : decode cX1_holds 10 = .ok (.new 56, 3) := by decide +kernel
theorem dX1_holds_13 : decode cX1_holds 13 = .ok (.dup, 1) := by decide +kernel
theorem dX1_holds_14 : decode cX1_holds 14 = .ok (.ldc 121, 2) := by decide +kernel
theorem dX1_holds_16 : decode cX1_holds 16 = .ok (.invokespecial 60, 3) := by decide +kernel
theorem dX1_holds_19 : decode cX1_holds 19 = .ok (.athrow, 1) := by decide +kernel
theorem dX1_holds_20 : decode cX1_holds 20 = .ok (.aload_n 2, 1) := by decide +kernel
theorem dX1_holds_21 : decode cX1_holds 21 = .ok (.invokevirtual 163, 3) := by decide +kernel
theorem dX1_holds_24 : decode cX1_holds 24 = .ok (.istore_n 3, 1) := by decide +kernel
theorem dX1_holds_25 : decode cX1_holds 25 = .ok (.aload_n 0, 1) := by decide +kernel
theorem dX1_holds_26 : decode cX1_holds 26 = .ok (.getfield 28, 3) := by decide +kernel
theorem dX1_holds_29 : decode cX1_holds 29 = .ok (.aload_n 2, 1) := by decide +kernel
theorem dX1_holds_30 : decode cX1_holds 30 = .ok (.invokevirtual 166, 3) := by decide +kernel
theorem dX1_holds_33 : decode cX1_holds 33 = .ok (.iconst 0, 1) := by decide +kernel
theorem dX1_holds_34 : decode cX1_holds 34 = .ok (.istore 4, 2) := by decide +kernel
theorem dX1_holds_36 : decode cX1_holds 36 = .ok (.iload 4, 2) := by decide +kernel
theorem dX1_holds_38 : decode cX1_holds 38 = .ok (.bipush 120, 2) := by decide +kernel
theorem dX1_holds_40 : decode cX1_holds 40 = .ok (.if_icmp .ge 45, 3) := by decide +kernel
theorem dX1_holds_43 : decode cX1_holds 43 = .ok (.aload_n 0, 1) := by decide +kernel
theorem dX1_holds_44 : decode cX1_holds 44 = .ok (.getfield 28, 3) := by decide +kernel
theorem dX1_holds_47 : decode cX1_holds 47 = .ok (.aload_n 0, 1) := by decide +kernel
theorem dX1_holds_48 : decode cX1_holds 48 = .ok (.iload 4, 2) := by decide +kernel
theorem dX1_holds_50 : decode cX1_holds 50 = .ok (.invokevirtual 146, 3) := by decide +kernel
theorem dX1_holds_53 : decode cX1_holds 53 = .ok (.aload_n 0, 1) := by decide +kernel
theorem dX1_holds_54 : decode cX1_holds 54 = .ok (.iload 4, 2) := by decide +kernel
theorem dX1_holds_56 : decode cX1_holds 56 = .ok (.invokevirtual 149, 3) := by decide +kernel
theorem dX1_holds_59 : decode cX1_holds 59 = .ok (.invokevirtual 152, 3) := by decide +kernel
theorem dX1_holds_62 : decode cX1_holds 62 = .ok (.pop, 1) := by decide +kernel
theorem dX1_holds_63 : decode cX1_holds 63 = .ok (.aload_n 0, 1) := by decide +kernel
theorem dX1_holds_64 : decode cX1_holds 64 = .ok (.getfield 28, 3) := by decide +kernel
theorem dX1_holds_67 : decode cX1_holds 67 = .ok (.invokevirtual 163, 3) := by decide +kernel
theorem dX1_holds_70 : decode cX1_holds 70 = .ok (.iload_n 3, 1) := by decide +kernel
theorem dX1_holds_71 : decode cX1_holds 71 = .ok (.if_icmp .le 8, 3) := by decide +kernel
theorem dX1_holds_74 : decode cX1_holds 74 = .ok (.iload 4, 2) := by decide +kernel
theorem dX1_holds_76 : decode cX1_holds 76 = .ok (.iconst 1, 1) := by decide +kernel
theorem dX1_holds_77 : decode cX1_holds 77 = .ok (.iadd, 1) := by decide +kernel
theorem dX1_holds_78 : decode cX1_holds 78 = .ok (.ireturn, 1) := by decide +kernel
theorem dX1_holds_79 : decode cX1_holds 79 = .ok (.iinc 4 1, 3) := by decide +kernel
theorem dX1_holds_82 : decode cX1_holds 82 = .ok (.goto (-46), 3) := by decide +kernel
theorem dX1_holds_85 : decode cX1_holds 85 = .ok (.iconst (-1), 1) := by decide +kernel
theorem dX1_holds_86 : decode cX1_holds 86 = .ok (.ireturn, 1) := by decide +kernel
set_option maxRecDepth 20000 in
theorem ggX1_foresee_X1_roofAt : GoodIn wsX1_foresee wsX1_roofAt := goodIn_r _ [10, 11, 12, 13, 9, 14, 132, 133, 134, 135, 136, 137, 138] (by decide +kernel) (by decide +kernel)
set_option maxRecDepth 20000 in
theorem gX1_foresee_X1_roofAt : GoodIn wsX1_foresee (wsV RX1 69 RX1 yX1_roofAt wsX1_roofAt) := goodIn_app (goodIn_of _ (by decide +kernel)) ggX1_foresee_X1_roofAt
set_option maxRecDepth 20000 in
theorem ggX1_foresee_X1_isWithin : GoodIn wsX1_foresee wsX1_isWithin := goodIn_r _ [14] (by decide +kernel) (by decide +kernel)
set_option maxRecDepth 20000 in
theorem gX1_foresee_X1_isWithin : GoodIn wsX1_foresee (va_wsS RX1 32 yX1_isWithin wsX1_isWithin) := goodIn_app (goodIn_of _ (by decide +kernel)) ggX1_foresee_X1_isWithin
set_option maxRecDepth 20000 in
theorem ggX1_foresee_X0_becomeLike : GoodIn wsX1_foresee wsX0_becomeLike := goodIn_r _ [19, 20, 21, 22, 23, 24, 25, 26, 27, 28, 29, 30, 31, 139, 140, 141, 142, 143, 144, 145, 146, 147, 148] (by decide +kernel) (by decide +kernel)
set_option maxRecDepth 20000 in
theorem gX1_foresee_X0_becomeLike : GoodIn wsX1_foresee (wsV RX1 166 RX0 yX0_becomeLike wsX0_becomeLike) := goodIn_app (goodIn_of _ (by decide +kernel)) ggX1_foresee_X0_becomeLike
set_option maxRecDepth 20000 in
theorem ggX1_foresee_X1_rainAhead : GoodIn wsX1_foresee wsX1_rainAhead := goodIn_r _ [35, 36, 37, 38, 39, 9, 40, 41, 42, 43, 44, 45, 132, 133, 134, 135, 136, 137, 138] (by decide +kernel) (by decide +kernel)
set_option maxRecDepth 20000 in
theorem gX1_foresee_X1_rainAhead : GoodIn wsX1_foresee (wsV RX1 146 RX1 yX1_rainAhead wsX1_rainAhead) := goodIn_app (goodIn_of _ (by decide +kernel)) ggX1_foresee_X1_rainAhead
set_option maxRecDepth 20000 in
theorem ggX1_foresee_X1_stormAhead : GoodIn wsX1_foresee wsX1_stormAhead := goodIn_r _ [49, 50, 37, 38, 39, 9, 40, 41, 42, 43, 44, 45, 132, 133, 134, 135, 136, 137, 138] (by decide +kernel) (by decide +kernel)
set_option maxRecDepth 20000 in
theorem gX1_foresee_X1_stormAhead : GoodIn wsX1_foresee (wsV RX1 149 RX1 yX1_stormAhead wsX1_stormAhead) := goodIn_app (goodIn_of _ (by decide +kernel)) ggX1_foresee_X1_stormAhead
set_option maxRecDepth 20000 in
theorem ggX1_foresee_X0_liveMonth : GoodIn wsX1_foresee wsX0_liveMonth := goodIn_r _ [54, 20, 55, 56, 57, 18, 58, 59, 60, 61, 62, 63, 64, 21, 29, 65, 66, 67, 68, 69, 70, 71, 72, 73, 74, 75, 76, 77, 78, 79, 80, 81, 82, 83, 84, 31, 22, 24, 85, 86, 87, 88, 89, 90, 91, 92, 93, 94, 95, 96, 97, 98, 99, 100, 101, 102, 103, 104, 105, 106, 107, 30, 23, 108, 109, 110, 111, 112, 113, 114, 115, 139, 140, 141, 142, 143, 144, 145, 146, 147, 148] (by decide +kernel) (by decide +kernel)
set_option maxRecDepth 20000 in
theorem gX1_foresee_X0_liveMonth : GoodIn wsX1_foresee (wsV RX1 152 RX0 yX0_liveMonth wsX0_liveMonth) := goodIn_app (goodIn_of _ (by decide +kernel)) ggX1_foresee_X0_liveMonth
set_option maxRecDepth 20000 in
theorem ggX1_foresee_X0_yealms : GoodIn wsX1_foresee wsX0_yealms := goodIn_r _ [119, 21, 20, 69, 70, 71, 18, 72, 73, 74, 75, 76, 29, 139, 140, 141, 142, 143, 144, 145, 146, 147, 148] (by decide +kernel) (by decide +kernel)
set_option maxRecDepth 20000 in
theorem gX1_foresee_X0_yealms : GoodIn wsX1_foresee (wsV RX1 174 RX0 yX0_yealms wsX0_yealms) := goodIn_app (goodIn_of _ (by decide +kernel)) ggX1_foresee_X0_yealms
set_option maxRecDepth 20000 in
theorem ggX1_foresee_X0_leaks : GoodIn wsX1_foresee wsX0_leaks := goodIn_r _ [123, 20, 21, 124, 125, 126, 18, 127, 73, 74, 75, 76, 29, 69, 70, 71, 72, 139, 140, 141, 142, 143, 144, 145, 146, 147, 148] (by decide +kernel) (by decide +kernel)
set_option maxRecDepth 20000 in
theorem gX1_foresee_X0_leaks : GoodIn wsX1_foresee (wsV RX1 163 RX0 yX0_leaks wsX0_leaks) := goodIn_app (goodIn_of _ (by decide +kernel)) ggX1_foresee_X0_leaks
set_option maxRecDepth 20000 in
theorem ggX1_foresee_X0_ridgeLeft : GoodIn wsX1_foresee wsX0_ridgeLeft := goodIn_r _ [131, 23, 139, 140, 141, 142, 143, 144, 145, 146, 147, 148] (by decide +kernel) (by decide +kernel)
set_option maxRecDepth 20000 in
theorem gX1_foresee_X0_ridgeLeft : GoodIn wsX1_foresee (wsV RX1 177 RX0 yX0_ridgeLeft wsX0_ridgeLeft) := goodIn_app (goodIn_of _ (by decide +kernel)) ggX1_foresee_X0_ridgeLeft
theorem dX1_foresee_0 : decode cX1_foresee 0 = .ok (.aload_n 0, 1) := by decide +kernel
theorem dX1_foresee_1 : decode cX1_foresee 1 = .ok (.iload_n 1, 1) := by decide +kernel
theorem dX1_foresee_2 : decode cX1_foresee 2 = .ok (.invokevirtual 69, 3) := by decide +kernel
theorem dX1_foresee_5 : decode cX1_foresee 5 = .ok (.astore 4, 2) := by decide +kernel
theorem dX1_foresee_7 : decode cX1_foresee 7 = .ok (.aload 4, 2) := by decide +kernel
theorem dX1_foresee_9 : decode cX1_foresee 9 = .ok (.ifnull 12, 3) := by decide +kernel
theorem dX1_foresee_12 : decode cX1_foresee 12 = .ok (.iload_n 3, 1) := by decide +kernel
theorem dX1_foresee_13 : decode cX1_foresee 13 = .ok (.iconst 0, 1) := by decide +kernel
theorem dX1_foresee_14 : decode cX1_foresee 14 = .ok (.iconst 2, 1) := by decide +kernel
theorem dX1_foresee_15 : decode cX1_foresee 15 = .ok (.invokestatic 32, 3) := by decide +kernel
theorem dX1_foresee_18 : decode cX1_foresee 18 = .ok (.ifCond .ne 13, 3) := by decide +kernel
theorem dX1_foresee_21 : decode cX1_foresee 21 = .ok (.new 56, 3) := by decide +kernel
theorem dX1_foresee_24 : decode cX1_foresee 24 = .ok (.dup, 1) := by decide +kernel
theorem dX1_foresee_25 : decode cX1_foresee 25 = .ok (.ldc 170, 2) := by decide +kernel
theorem dX1_foresee_27 : decode cX1_foresee 27 = .ok (.invokespecial 60, 3) := by decide +kernel
theorem dX1_foresee_30 : decode cX1_foresee 30 = .ok (.athrow, 1) := by decide +kernel
theorem dX1_foresee_31 : decode cX1_foresee 31 = .ok (.iload_n 2, 1) := by decide +kernel
theorem dX1_foresee_32 : decode cX1_foresee 32 = .ok (.iconst 1, 1) := by decide +kernel
theorem dX1_foresee_33 : decode cX1_foresee 33 = .ok (.bipush 60, 2) := by decide +kernel
theorem dX1_foresee_35 : decode cX1_foresee 35 = .ok (.invokestatic 32, 3) := by decide +kernel
theorem dX1_foresee_38 : decode cX1_foresee 38 = .ok (.ifCond .ne 13, 3) := by decide +kernel
theorem dX1_foresee_41 : decode cX1_foresee 41 = .ok (.new 36, 3) := by decide +kernel
theorem dX1_foresee_44 : decode cX1_foresee 44 = .ok (.dup, 1) := by decide +kernel
theorem dX1_foresee_45 : decode cX1_foresee 45 = .ok (.ldc 172, 2) := by decide +kernel
theorem dX1_foresee_47 : decode cX1_foresee 47 = .ok (.invokespecial 40, 3) := by decide +kernel
theorem dX1_foresee_50 : decode cX1_foresee 50 = .ok (.athrow, 1) := by decide +kernel
theorem dX1_foresee_51 : decode cX1_foresee 51 = .ok (.aload_n 0, 1) := by decide +kernel
theorem dX1_foresee_52 : decode cX1_foresee 52 = .ok (.getfield 28, 3) := by decide +kernel
theorem dX1_foresee_55 : decode cX1_foresee 55 = .ok (.aload 4, 2) := by decide +kernel
theorem dX1_foresee_57 : decode cX1_foresee 57 = .ok (.invokevirtual 166, 3) := by decide +kernel
theorem dX1_foresee_60 : decode cX1_foresee 60 = .ok (.iconst 0, 1) := by decide +kernel
theorem dX1_foresee_61 : decode cX1_foresee 61 = .ok (.istore 5, 2) := by decide +kernel
theorem dX1_foresee_63 : decode cX1_foresee 63 = .ok (.iload 5, 2) := by decide +kernel
theorem dX1_foresee_65 : decode cX1_foresee 65 = .ok (.iload_n 2, 1) := by decide +kernel
theorem dX1_foresee_66 : decode cX1_foresee 66 = .ok (.if_icmp .ge 29, 3) := by decide +kernel
theorem dX1_foresee_69 : decode cX1_foresee 69 = .ok (.aload_n 0, 1) := by decide +kernel
theorem dX1_foresee_70 : decode cX1_foresee 70 = .ok (.getfield 28, 3) := by decide +kernel
theorem dX1_foresee_73 : decode cX1_foresee 73 = .ok (.aload_n 0, 1) := by decide +kernel
theorem dX1_foresee_74 : decode cX1_foresee 74 = .ok (.iload 5, 2) := by decide +kernel
theorem dX1_foresee_76 : decode cX1_foresee 76 = .ok (.invokevirtual 146, 3) := by decide +kernel
theorem dX1_foresee_79 : decode cX1_foresee 79 = .ok (.aload_n 0, 1) := by decide +kernel
theorem dX1_foresee_80 : decode cX1_foresee 80 = .ok (.iload 5, 2) := by decide +kernel
theorem dX1_foresee_82 : decode cX1_foresee 82 = .ok (.invokevirtual 149, 3) := by decide +kernel
theorem dX1_foresee_85 : decode cX1_foresee 85 = .ok (.invokevirtual 152, 3) := by decide +kernel
theorem dX1_foresee_88 : decode cX1_foresee 88 = .ok (.pop, 1) := by decide +kernel
theorem dX1_foresee_89 : decode cX1_foresee 89 = .ok (.iinc 5 1, 3) := by decide +kernel
theorem dX1_foresee_92 : decode cX1_foresee 92 = .ok (.goto (-29), 3) := by decide +kernel
theorem dX1_foresee_95 : decode cX1_foresee 95 = .ok (.iload_n 3, 1) := by decide +kernel
theorem dX1_foresee_96 : decode cX1_foresee 96 = .ok (.lookupswitch 44 #[(0, 28), (1, 36)], 28) := by decide +kernel
theorem dX1_foresee_124 : decode cX1_foresee 124 = .ok (.aload_n 0, 1) := by decide +kernel
theorem dX1_foresee_125 : decode cX1_foresee 125 = .ok (.getfield 28, 3) := by decide +kernel
theorem dX1_foresee_128 : decode cX1_foresee 128 = .ok (.invokevirtual 174, 3) := by decide +kernel
theorem dX1_foresee_131 : decode cX1_foresee 131 = .ok (.ireturn, 1) := by decide +kernel
theorem dX1_foresee_132 : decode cX1_foresee 132 = .ok (.aload_n 0, 1) := by decide +kernel
theorem dX1_foresee_133 : decode cX1_foresee 133 = .ok (.getfield 28, 3) := by decide +kernel
theorem dX1_foresee_136 : decode cX1_foresee 136 = .ok (.invokevirtual 163, 3) := by decide +kernel
theorem dX1_foresee_139 : decode cX1_foresee 139 = .ok (.ireturn, 1) := by decide +kernel
theorem dX1_foresee_140 : decode cX1_foresee 140 = .ok (.aload_n 0, 1) := by decide +kernel
theorem dX1_foresee_141 : decode cX1_foresee 141 = .ok (.getfield 28, 3) := by decide +kernel
theorem dX1_foresee_144 : decode cX1_foresee 144 = .ok (.invokevirtual 177, 3) := by decide +kernel
theorem dX1_foresee_147 : decode cX1_foresee 147 = .ok (.ireturn, 1) := by decide +kernel
set_option maxRecDepth 20000 in
theorem ggX1_advise_X1_roofAt : GoodIn wsX1_advise wsX1_roofAt := goodIn_r _ [9, 10, 11, 12, 8, 13, 129, 130, 131, 132, 133, 134, 135] (by decide +kernel) (by decide +kernel)
set_option maxRecDepth 20000 in
theorem gX1_advise_X1_roofAt : GoodIn wsX1_advise (wsV RX1 69 RX1 yX1_roofAt wsX1_roofAt) := goodIn_app (goodIn_of _ (by decide +kernel)) ggX1_advise_X1_roofAt
set_option maxRecDepth 20000 in
theorem ggX1_advise_X1_isWithin : GoodIn wsX1_advise wsX1_isWithin := goodIn_r _ [13] (by decide +kernel) (by decide +kernel)
set_option maxRecDepth 20000 in
theorem gX1_advise_X1_isWithin : GoodIn wsX1_advise (va_wsS RX1 32 yX1_isWithin wsX1_isWithin) := goodIn_app (goodIn_of _ (by decide +kernel)) ggX1_advise_X1_isWithin
set_option maxRecDepth 20000 in
theorem ggX1_advise_X0_wide : GoodIn wsX1_advise wsX0_wide := goodIn_r _ [18, 19, 136, 137, 138, 139, 140, 141, 142, 143, 144, 145] (by decide +kernel) (by decide +kernel)
set_option maxRecDepth 20000 in
theorem gX1_advise_X0_wide : GoodIn wsX1_advise (wsV RX1 102 RX0 yX0_wide wsX0_wide) := goodIn_app (goodIn_of _ (by decide +kernel)) ggX1_advise_X0_wide
set_option maxRecDepth 20000 in
theorem ggX1_advise_X1_lostAt : GoodIn wsX1_advise wsX1_lostAt := goodIn_r _ [23, 24, 25, 26, 27, 17, 28, 19, 29, 30, 31, 32, 33, 34, 35, 36, 37, 38, 39, 40, 41, 42, 43, 44, 45, 46, 47, 48, 49, 50, 51, 52, 53, 54, 55, 56, 57, 58, 59, 60, 61, 62, 8, 63, 64, 65, 66, 67, 68, 69, 70, 71, 72, 73, 74, 75, 76, 77, 78, 79, 80, 81, 82, 83, 84, 85, 86, 87, 88, 89, 90, 91, 92, 93, 94, 95, 96, 97, 98, 99, 100, 101, 102, 103, 104, 105, 106, 107, 108, 109, 110, 111, 112, 113, 114, 115, 116, 117, 118, 119, 120, 121, 122, 123, 129, 130, 131, 132, 133, 134, 135, 136, 137, 138, 139, 140, 141, 142, 143, 144, 145] (by decide +kernel) (by decide +kernel)
set_option maxRecDepth 20000 in
theorem gX1_advise_X1_lostAt : GoodIn wsX1_advise (wsV RX1 182 RX1 yX1_lostAt wsX1_lostAt) := goodIn_app (goodIn_of _ (by decide +kernel)) ggX1_advise_X1_lostAt
set_option maxRecDepth 20000 in
theorem ggX1_advise_X0_high : GoodIn wsX1_advise wsX0_high := goodIn_r _ [127, 29, 136, 137, 138, 139, 140, 141, 142, 143, 144, 145] (by decide +kernel) (by decide +kernel)
set_option maxRecDepth 20000 in
theorem gX1_advise_X0_high : GoodIn wsX1_advise (wsV RX1 186 RX0 yX0_high wsX0_high) := goodIn_app (goodIn_of _ (by decide +kernel)) ggX1_advise_X0_high
set_option maxRecDepth 20000 in
theorem ggX1_advise_X0_numberOf : GoodIn wsX1_advise wsX0_numberOf := goodIn_r _ [59, 19, 136, 137, 138, 139, 140, 141, 142, 143, 144, 145] (by decide +kernel) (by decide +kernel)
set_option maxRecDepth 20000 in
theorem gX1_advise_X0_numberOf : GoodIn wsX1_advise (wsV RX1 189 RX0 yX0_numberOf wsX0_numberOf) := goodIn_app (goodIn_of _ (by decide +kernel)) ggX1_advise_X0_numberOf
theorem dX1_advise_0 : decode cX1_advise 0 = .ok (.aload_n 0, 1) := by decide +kernel
theorem dX1_advise_1 : decode cX1_advise 1 = .ok (.iload_n 1, 1) := by decide +kernel
theorem dX1_advise_2 : decode cX1_advise 2 = .ok (.invokevirtual 69, 3) := by decide +kernel
theorem dX1_advise_5 : decode cX1_advise 5 = .ok (.astore_n 3, 1) := by decide +kernel
theorem dX1_advise_6 : decode cX1_advise 6 = .ok (.aload_n 3, 1) := by decide +kernel
theorem dX1_advise_7 : decode cX1_advise 7 = .ok (.ifnonnull 13, 3) := by decide +kernel
theorem dX1_advise_10 : decode cX1_advise 10 = .ok (.new 56, 3) := by decide +kernel
theorem dX1_advise_13 : decode cX1_advise 13 = .ok (.dup, 1) := by decide +kernel
theorem dX1_advise_14 : decode cX1_advise 14 = .ok (.ldc 121, 2) := by decide +kernel
theorem dX1_advise_16 : decode cX1_advise 16 = .ok (.invokespecial 60, 3) := by decide +kernel
theorem dX1_advise_19 : decode cX1_advise 19 = .ok (.athrow, 1) := by decide +kernel
theorem dX1_advise_20 : decode cX1_advise 20 = .ok (.iload_n 2, 1) := by decide +kernel
theorem dX1_advise_21 : decode cX1_advise 21 = .ok (.iconst 1, 1) := by decide +kernel
theorem dX1_advise_22 : decode cX1_advise 22 = .ok (.bipush 24, 2) := by decide +kernel
theorem dX1_advise_24 : decode cX1_advise 24 = .ok (.invokestatic 32, 3) := by decide +kernel
theorem dX1_advise_27 : decode cX1_advise 27 = .ok (.ifCond .ne 13, 3) := by decide +kernel
theorem dX1_advise_30 : decode cX1_advise 30 = .ok (.new 36, 3) := by decide +kernel
theorem dX1_advise_33 : decode cX1_advise 33 = .ok (.dup, 1) := by decide +kernel
theorem dX1_advise_34 : decode cX1_advise 34 = .ok (.ldc 180, 2) := by decide +kernel
theorem dX1_advise_36 : decode cX1_advise 36 = .ok (.invokespecial 40, 3) := by decide +kernel
theorem dX1_advise_39 : decode cX1_advise 39 = .ok (.athrow, 1) := by decide +kernel
theorem dX1_advise_40 : decode cX1_advise 40 = .ok (.iconst (-1), 1) := by decide +kernel
theorem dX1_advise_41 : decode cX1_advise 41 = .ok (.istore 4, 2) := by decide +kernel
theorem dX1_advise_43 : decode cX1_advise 43 = .ok (.iconst 0, 1) := by decide +kernel
theorem dX1_advise_44 : decode cX1_advise 44 = .ok (.istore 5, 2) := by decide +kernel
theorem dX1_advise_46 : decode cX1_advise 46 = .ok (.iconst 0, 1) := by decide +kernel
theorem dX1_advise_47 : decode cX1_advise 47 = .ok (.istore 6, 2) := by decide +kernel
theorem dX1_advise_49 : decode cX1_advise 49 = .ok (.iload 6, 2) := by decide +kernel
theorem dX1_advise_51 : decode cX1_advise 51 = .ok (.aload_n 3, 1) := by decide +kernel
theorem dX1_advise_52 : decode cX1_advise 52 = .ok (.invokevirtual 102, 3) := by decide +kernel
theorem dX1_advise_55 : decode cX1_advise 55 = .ok (.if_icmp .ge 97, 3) := by decide +kernel
theorem dX1_advise_58 : decode cX1_advise 58 = .ok (.aload_n 0, 1) := by decide +kernel
theorem dX1_advise_59 : decode cX1_advise 59 = .ok (.aload_n 3, 1) := by decide +kernel
theorem dX1_advise_60 : decode cX1_advise 60 = .ok (.iload 6, 2) := by decide +kernel
theorem dX1_advise_62 : decode cX1_advise 62 = .ok (.iload_n 2, 1) := by decide +kernel
theorem dX1_advise_63 : decode cX1_advise 63 = .ok (.iconst (-1), 1) := by decide +kernel
theorem dX1_advise_64 : decode cX1_advise 64 = .ok (.invokevirtual 182, 3) := by decide +kernel
theorem dX1_advise_67 : decode cX1_advise 67 = .ok (.istore 7, 2) := by decide +kernel
theorem dX1_advise_69 : decode cX1_advise 69 = .ok (.iconst 0, 1) := by decide +kernel
theorem dX1_advise_70 : decode cX1_advise 70 = .ok (.istore 8, 2) := by decide +kernel
theorem dX1_advise_72 : decode cX1_advise 72 = .ok (.iload 8, 2) := by decide +kernel
theorem dX1_advise_74 : decode cX1_advise 74 = .ok (.aload_n 3, 1) := by decide +kernel
theorem dX1_advise_75 : decode cX1_advise 75 = .ok (.invokevirtual 186, 3) := by decide +kernel
theorem dX1_advise_78 : decode cX1_advise 78 = .ok (.if_icmp .ge 68, 3) := by decide +kernel
theorem dX1_advise_81 : decode cX1_advise 81 = .ok (.iload 7, 2) := by decide +kernel
theorem dX1_advise_83 : decode cX1_advise 83 = .ok (.ifCond .le 63, 3) := by decide +kernel
theorem dX1_advise_86 : decode cX1_advise 86 = .ok (.iload 7, 2) := by decide +kernel
theorem dX1_advise_88 : decode cX1_advise 88 = .ok (.aload_n 0, 1) := by decide +kernel
theorem dX1_advise_89 : decode cX1_advise 89 = .ok (.aload_n 3, 1) := by decide +kernel
theorem dX1_advise_90 : decode cX1_advise 90 = .ok (.iload 6, 2) := by decide +kernel
theorem dX1_advise_92 : decode cX1_advise 92 = .ok (.iload_n 2, 1) := by decide +kernel
theorem dX1_advise_93 : decode cX1_advise 93 = .ok (.iload 8, 2) := by decide +kernel
theorem dX1_advise_95 : decode cX1_advise 95 = .ok (.invokevirtual 182, 3) := by decide +kernel
theorem dX1_advise_98 : decode cX1_advise 98 = .ok (.isub, 1) := by decide +kernel
theorem dX1_advise_99 : decode cX1_advise 99 = .ok (.istore 9, 2) := by decide +kernel
theorem dX1_advise_101 : decode cX1_advise 101 = .ok (.aload_n 3, 1) := by decide +kernel
theorem dX1_advise_102 : decode cX1_advise 102 = .ok (.iload 8, 2) := by decide +kernel
theorem dX1_advise_104 : decode cX1_advise 104 = .ok (.iload 6, 2) := by decide +kernel
theorem dX1_advise_106 : decode cX1_advise 106 = .ok (.invokevirtual 189, 3) := by decide +kernel
theorem dX1_advise_109 : decode cX1_advise 109 = .ok (.istore 10, 2) := by decide +kernel
theorem dX1_advise_111 : decode cX1_advise 111 = .ok (.iload 9, 2) := by decide +kernel
theorem dX1_advise_113 : decode cX1_advise 113 = .ok (.iload 5, 2) := by decide +kernel
theorem dX1_advise_115 : decode cX1_advise 115 = .ok (.if_icmp .gt 17, 3) := by decide +kernel
theorem dX1_advise_118 : decode cX1_advise 118 = .ok (.iload 9, 2) := by decide +kernel
theorem dX1_advise_120 : decode cX1_advise 120 = .ok (.iload 5, 2) := by decide +kernel
theorem dX1_advise_122 : decode cX1_advise 122 = .ok (.if_icmp .ne 18, 3) := by decide +kernel
theorem dX1_advise_125 : decode cX1_advise 125 = .ok (.iload 10, 2) := by decide +kernel
theorem dX1_advise_127 : decode cX1_advise 127 = .ok (.iload 4, 2) := by decide +kernel
theorem dX1_advise_129 : decode cX1_advise 129 = .ok (.if_icmp .ge 11, 3) := by decide +kernel
theorem dX1_advise_132 : decode cX1_advise 132 = .ok (.iload 9, 2) := by decide +kernel
theorem dX1_advise_134 : decode cX1_advise 134 = .ok (.istore 5, 2) := by decide +kernel
theorem dX1_advise_136 : decode cX1_advise 136 = .ok (.iload 10, 2) := by decide +kernel
theorem dX1_advise_138 : decode cX1_advise 138 = .ok (.istore 4, 2) := by decide +kernel
theorem dX1_advise_140 : decode cX1_advise 140 = .ok (.iinc 8 1, 3) := by decide +kernel
theorem dX1_advise_143 : decode cX1_advise 143 = .ok (.goto (-71), 3) := by decide +kernel
theorem dX1_advise_146 : decode cX1_advise 146 = .ok (.iinc 6 1, 3) := by decide +kernel
theorem dX1_advise_149 : decode cX1_advise 149 = .ok (.goto (-100), 3) := by decide +kernel
theorem dX1_advise_152 : decode cX1_advise 152 = .ok (.iload 4, 2) := by decide +kernel
theorem dX1_advise_154 : decode cX1_advise 154 = .ok (.ireturn, 1) := by decide +kernel
set_option maxRecDepth 20000 in
theorem ggX1_needs_X1_roofAt : GoodIn wsX1_needs wsX1_roofAt := goodIn_r _ [9, 10, 11, 12, 8, 13, 41, 42, 43, 44, 45, 46, 47] (by decide +kernel) (by decide +kernel)
set_option maxRecDepth 20000 in
theorem gX1_needs_X1_roofAt : GoodIn wsX1_needs (wsV RX1 69 RX1 yX1_roofAt wsX1_roofAt) := goodIn_app (goodIn_of _ (by decide +kernel)) ggX1_needs_X1_roofAt
set_option maxRecDepth 20000 in
theorem ggX1_needs_X1_isWithin : GoodIn wsX1_needs wsX1_isWithin := goodIn_r _ [13] (by decide +kernel) (by decide +kernel)
set_option maxRecDepth 20000 in
theorem gX1_needs_X1_isWithin : GoodIn wsX1_needs (va_wsS RX1 32 yX1_isWithin wsX1_isWithin) := goodIn_app (goodIn_of _ (by decide +kernel)) ggX1_needs_X1_isWithin
set_option maxRecDepth 20000 in
theorem ggX1_needs_X0_wide : GoodIn wsX1_needs wsX0_wide := goodIn_r _ [18, 19, 48, 49, 50, 51, 52, 53, 54, 55, 56, 57] (by decide +kernel) (by decide +kernel)
set_option maxRecDepth 20000 in
theorem gX1_needs_X0_wide : GoodIn wsX1_needs (wsV RX1 102 RX0 yX0_wide wsX0_wide) := goodIn_app (goodIn_of _ (by decide +kernel)) ggX1_needs_X0_wide
set_option maxRecDepth 20000 in
theorem ggX1_needs_X0_high : GoodIn wsX1_needs wsX0_high := goodIn_r _ [23, 24, 48, 49, 50, 51, 52, 53, 54, 55, 56, 57] (by decide +kernel) (by decide +kernel)
set_option maxRecDepth 20000 in
theorem gX1_needs_X0_high : GoodIn wsX1_needs (wsV RX1 186 RX0 yX0_high wsX0_high) := goodIn_app (goodIn_of _ (by decide +kernel)) ggX1_needs_X0_high
set_option maxRecDepth 20000 in
theorem ggX1_needs_X0_yealms : GoodIn wsX1_needs wsX0_yealms := goodIn_r _ [28, 24, 19, 29, 30, 31, 17, 32, 33, 34, 35, 36, 37, 48, 49, 50, 51, 52, 53, 54, 55, 56, 57] (by decide +kernel) (by decide +kernel)
set_option maxRecDepth 20000 in
theorem gX1_needs_X0_yealms : GoodIn wsX1_needs (wsV RX1 174 RX0 yX0_yealms wsX0_yealms) := goodIn_app (goodIn_of _ (by decide +kernel)) ggX1_needs_X0_yealms
set_option maxRecDepth 20000 in
theorem ggX1_needs_X1_bundlesFor : GoodIn wsX1_needs wsX1_bundlesFor := goodIn_r _ [40] (by decide +kernel) (by decide +kernel)
set_option maxRecDepth 20000 in
theorem gX1_needs_X1_bundlesFor : GoodIn wsX1_needs (va_wsS RX1 87 yX1_bundlesFor wsX1_bundlesFor) := goodIn_app (goodIn_of _ (by decide +kernel)) ggX1_needs_X1_bundlesFor
theorem dX1_needs_0 : decode cX1_needs 0 = .ok (.aload_n 0, 1) := by decide +kernel
theorem dX1_needs_1 : decode cX1_needs 1 = .ok (.iload_n 1, 1) := by decide +kernel
theorem dX1_needs_2 : decode cX1_needs 2 = .ok (.invokevirtual 69, 3) := by decide +kernel
theorem dX1_needs_5 : decode cX1_needs 5 = .ok (.astore_n 3, 1) := by decide +kernel
theorem dX1_needs_6 : decode cX1_needs 6 = .ok (.aload_n 3, 1) := by decide +kernel
theorem dX1_needs_7 : decode cX1_needs 7 = .ok (.ifnonnull 13, 3) := by decide +kernel
theorem dX1_needs_10 : decode cX1_needs 10 = .ok (.new 56, 3) := by decide +kernel
theorem dX1_needs_13 : decode cX1_needs 13 = .ok (.dup, 1) := by decide +kernel
theorem dX1_needs_14 : decode cX1_needs 14 = .ok (.ldc 121, 2) := by decide +kernel
theorem dX1_needs_16 : decode cX1_needs 16 = .ok (.invokespecial 60, 3) := by decide +kernel
theorem dX1_needs_19 : decode cX1_needs 19 = .ok (.athrow, 1) := by decide +kernel
theorem dX1_needs_20 : decode cX1_needs 20 = .ok (.iload_n 2, 1) := by decide +kernel
theorem dX1_needs_21 : decode cX1_needs 21 = .ok (.iconst 1, 1) := by decide +kernel
theorem dX1_needs_22 : decode cX1_needs 22 = .ok (.bipush 40, 2) := by decide +kernel
theorem dX1_needs_24 : decode cX1_needs 24 = .ok (.invokestatic 32, 3) := by decide +kernel
theorem dX1_needs_27 : decode cX1_needs 27 = .ok (.ifCond .ne 13, 3) := by decide +kernel
theorem dX1_needs_30 : decode cX1_needs 30 = .ok (.new 36, 3) := by decide +kernel
theorem dX1_needs_33 : decode cX1_needs 33 = .ok (.dup, 1) := by decide +kernel
theorem dX1_needs_34 : decode cX1_needs 34 = .ok (.ldc 192, 2) := by decide +kernel
theorem dX1_needs_36 : decode cX1_needs 36 = .ok (.invokespecial 40, 3) := by decide +kernel
theorem dX1_needs_39 : decode cX1_needs 39 = .ok (.athrow, 1) := by decide +kernel
theorem dX1_needs_40 : decode cX1_needs 40 = .ok (.aload_n 3, 1) := by decide +kernel
theorem dX1_needs_41 : decode cX1_needs 41 = .ok (.invokevirtual 102, 3) := by decide +kernel
theorem dX1_needs_44 : decode cX1_needs 44 = .ok (.aload_n 3, 1) := by decide +kernel
theorem dX1_needs_45 : decode cX1_needs 45 = .ok (.invokevirtual 186, 3) := by decide +kernel
theorem dX1_needs_48 : decode cX1_needs 48 = .ok (.imul, 1) := by decide +kernel
theorem dX1_needs_49 : decode cX1_needs 49 = .ok (.aload_n 3, 1) := by decide +kernel
theorem dX1_needs_50 : decode cX1_needs 50 = .ok (.invokevirtual 174, 3) := by decide +kernel
theorem dX1_needs_53 : decode cX1_needs 53 = .ok (.isub, 1) := by decide +kernel
theorem dX1_needs_54 : decode cX1_needs 54 = .ok (.istore 4, 2) := by decide +kernel
theorem dX1_needs_56 : decode cX1_needs 56 = .ok (.iload 4, 2) := by decide +kernel
theorem dX1_needs_58 : decode cX1_needs 58 = .ok (.iload_n 2, 1) := by decide +kernel
theorem dX1_needs_59 : decode cX1_needs 59 = .ok (.invokestatic 87, 3) := by decide +kernel
theorem dX1_needs_62 : decode cX1_needs 62 = .ok (.imul, 1) := by decide +kernel
theorem dX1_needs_63 : decode cX1_needs 63 = .ok (.ireturn, 1) := by decide +kernel
set_option maxRecDepth 20000 in
theorem ggX1_mean_X0_yealms : GoodIn wsX1_mean wsX0_yealms := goodIn_r _ [6, 7, 8, 9, 10, 11, 5, 12, 13, 14, 15, 16, 17, 33, 34, 35, 36, 37, 38, 39, 40, 41, 42] (by decide +kernel) (by decide +kernel)
set_option maxRecDepth 20000 in
theorem gX1_mean_X0_yealms : GoodIn wsX1_mean (wsV RX1 174 RX0 yX0_yealms wsX0_yealms) := goodIn_app (goodIn_of _ (by decide +kernel)) ggX1_mean_X0_yealms
set_option maxRecDepth 20000 in
theorem ggX1_mean_X0_thicknessInAll : GoodIn wsX1_mean wsX0_thicknessInAll := goodIn_r _ [21, 8, 22, 23, 24, 5, 25, 7, 13, 14, 15, 16, 17, 33, 34, 35, 36, 37, 38, 39, 40, 41, 42] (by decide +kernel) (by decide +kernel)
set_option maxRecDepth 20000 in
theorem gX1_mean_X0_thicknessInAll : GoodIn wsX1_mean (wsV RX1 194 RX0 yX0_thicknessInAll wsX0_thicknessInAll) := goodIn_app (goodIn_of _ (by decide +kernel)) ggX1_mean_X0_thicknessInAll
theorem dX1_mean_0 : decode cX1_mean 0 = .ok (.iconst 0, 1) := by decide +kernel
theorem dX1_mean_1 : decode cX1_mean 1 = .ok (.istore_n 1, 1) := by decide +kernel
theorem dX1_mean_2 : decode cX1_mean 2 = .ok (.iconst 0, 1) := by decide +kernel
theorem dX1_mean_3 : decode cX1_mean 3 = .ok (.istore_n 2, 1) := by decide +kernel
theorem dX1_mean_4 : decode cX1_mean 4 = .ok (.iconst 0, 1) := by decide +kernel
theorem dX1_mean_5 : decode cX1_mean 5 = .ok (.istore_n 3, 1) := by decide +kernel
theorem dX1_mean_6 : decode cX1_mean 6 = .ok (.iload_n 3, 1) := by decide +kernel
theorem dX1_mean_7 : decode cX1_mean 7 = .ok (.bipush 6, 2) := by decide +kernel
theorem dX1_mean_9 : decode cX1_mean 9 = .ok (.if_icmp .ge 38, 3) := by decide +kernel
theorem dX1_mean_12 : decode cX1_mean 12 = .ok (.aload_n 0, 1) := by decide +kernel
theorem dX1_mean_13 : decode cX1_mean 13 = .ok (.getfield 11, 3) := by decide +kernel
theorem dX1_mean_16 : decode cX1_mean 16 = .ok (.iload_n 3, 1) := by decide +kernel
theorem dX1_mean_17 : decode cX1_mean 17 = .ok (.aaload, 1) := by decide +kernel
theorem dX1_mean_18 : decode cX1_mean 18 = .ok (.astore 4, 2) := by decide +kernel
theorem dX1_mean_20 : decode cX1_mean 20 = .ok (.aload 4, 2) := by decide +kernel
theorem dX1_mean_22 : decode cX1_mean 22 = .ok (.ifnull 19, 3) := by decide +kernel
theorem dX1_mean_25 : decode cX1_mean 25 = .ok (.iload_n 1, 1) := by decide +kernel
theorem dX1_mean_26 : decode cX1_mean 26 = .ok (.aload 4, 2) := by decide +kernel
theorem dX1_mean_28 : decode cX1_mean 28 = .ok (.invokevirtual 174, 3) := by decide +kernel
theorem dX1_mean_31 : decode cX1_mean 31 = .ok (.iadd, 1) := by decide +kernel
theorem dX1_mean_32 : decode cX1_mean 32 = .ok (.istore_n 1, 1) := by decide +kernel
theorem dX1_mean_33 : decode cX1_mean 33 = .ok (.iload_n 2, 1) := by decide +kernel
theorem dX1_mean_34 : decode cX1_mean 34 = .ok (.aload 4, 2) := by decide +kernel
theorem dX1_mean_36 : decode cX1_mean 36 = .ok (.invokevirtual 194, 3) := by decide +kernel
theorem dX1_mean_39 : decode cX1_mean 39 = .ok (.iadd, 1) := by decide +kernel
theorem dX1_mean_40 : decode cX1_mean 40 = .ok (.istore_n 2, 1) := by decide +kernel
theorem dX1_mean_41 : decode cX1_mean 41 = .ok (.iinc 3 1, 3) := by decide +kernel
theorem dX1_mean_44 : decode cX1_mean 44 = .ok (.goto (-38), 3) := by decide +kernel
theorem dX1_mean_47 : decode cX1_mean 47 = .ok (.iload_n 1, 1) := by decide +kernel
theorem dX1_mean_48 : decode cX1_mean 48 = .ok (.ifCond .ne 7, 3) := by decide +kernel
theorem dX1_mean_51 : decode cX1_mean 51 = .ok (.dconst 0, 1) := by decide +kernel
theorem dX1_mean_52 : decode cX1_mean 52 = .ok (.goto 8, 3) := by decide +kernel
theorem dX1_mean_55 : decode cX1_mean 55 = .ok (.iload_n 2, 1) := by decide +kernel
theorem dX1_mean_56 : decode cX1_mean 56 = .ok (.i2d, 1) := by decide +kernel
theorem dX1_mean_57 : decode cX1_mean 57 = .ok (.iload_n 1, 1) := by decide +kernel
theorem dX1_mean_58 : decode cX1_mean 58 = .ok (.i2d, 1) := by decide +kernel
theorem dX1_mean_59 : decode cX1_mean 59 = .ok (.ddiv, 1) := by decide +kernel
theorem dX1_mean_60 : decode cX1_mean 60 = .ok (.dreturn, 1) := by decide +kernel
set_option maxRecDepth 20000 in
theorem ggX1_digest_X1_tally : GoodIn wsX1_digest wsX1_tally := goodIn_r _ [10, 11, 12, 13, 14, 15, 16, 9, 17, 5, 18, 19, 20, 21, 22, 23, 24, 25, 26, 27, 28, 29, 30, 31, 32, 33, 34, 35, 36, 37, 38, 39, 40, 41, 42, 43, 44, 45, 46, 47, 48, 49, 50, 51, 52, 53, 54, 55, 56, 57, 3, 58, 59, 60, 61, 62, 63, 64, 65, 66, 67, 68, 69, 4, 100, 101, 102, 103, 104, 105, 106, 107, 108, 109, 110, 111, 112, 113, 114, 115, 116] (by decide +kernel) (by decide +kernel)
set_option maxRecDepth 20000 in
theorem gX1_digest_X1_tally : GoodIn wsX1_digest (wsV RX1 141 RX1 yX1_tally wsX1_tally) := goodIn_app (goodIn_of _ (by decide +kernel)) ggX1_digest_X1_tally
set_option maxRecDepth 20000 in
theorem ggX1_digest_X1_digestRoof : GoodIn wsX1_digest wsX1_digestRoof := goodIn_r _ [72, 2, 18, 19, 20, 21, 22, 23, 24, 25, 26, 27, 28, 29, 30, 31, 32, 33, 34, 35, 36, 37, 38, 39, 40, 41, 42, 43, 44, 45, 46, 47, 48, 49, 50, 51, 52, 53, 73, 74, 75, 76, 77, 78, 79, 80, 81, 82, 83, 84, 85, 86, 87, 88, 89, 90, 91, 92, 93, 94, 95, 96, 97, 98, 99, 107, 108, 109, 110, 111, 112, 113, 114, 115, 116] (by decide +kernel) (by decide +kernel)
set_option maxRecDepth 20000 in
theorem gX1_digest_X1_digestRoof : GoodIn wsX1_digest (va_wsS RX1 201 yX1_digestRoof wsX1_digestRoof) := goodIn_app (goodIn_of _ (by decide +kernel)) ggX1_digest_X1_digestRoof
theorem dX1_digest_0 : decode cX1_digest 0 = .ok (.ldc2_w 197, 3) := by decide +kernel
theorem dX1_digest_3 : decode cX1_digest 3 = .ok (.lstore_n 1, 1) := by decide +kernel
theorem dX1_digest_4 : decode cX1_digest 4 = .ok (.iconst 0, 1) := by decide +kernel
theorem dX1_digest_5 : decode cX1_digest 5 = .ok (.istore_n 3, 1) := by decide +kernel
theorem dX1_digest_6 : decode cX1_digest 6 = .ok (.iload_n 3, 1) := by decide +kernel
theorem dX1_digest_7 : decode cX1_digest 7 = .ok (.bipush 9, 2) := by decide +kernel
theorem dX1_digest_9 : decode cX1_digest 9 = .ok (.if_icmp .ge 22, 3) := by decide +kernel
theorem dX1_digest_12 : decode cX1_digest 12 = .ok (.lload_n 1, 1) := by decide +kernel
theorem dX1_digest_13 : decode cX1_digest 13 = .ok (.ldc2_w 199, 3) := by decide +kernel
theorem dX1_digest_16 : decode cX1_digest 16 = .ok (.lmul, 1) := by decide +kernel
theorem dX1_digest_17 : decode cX1_digest 17 = .ok (.aload_n 0, 1) := by decide +kernel
theorem dX1_digest_18 : decode cX1_digest 18 = .ok (.iload_n 3, 1) := by decide +kernel
theorem dX1_digest_19 : decode cX1_digest 19 = .ok (.invokevirtual 141, 3) := by decide +kernel
theorem dX1_digest_22 : decode cX1_digest 22 = .ok (.i2l, 1) := by decide +kernel
theorem dX1_digest_23 : decode cX1_digest 23 = .ok (.ladd, 1) := by decide +kernel
theorem dX1_digest_24 : decode cX1_digest 24 = .ok (.lstore_n 1, 1) := by decide +kernel
theorem dX1_digest_25 : decode cX1_digest 25 = .ok (.iinc 3 1, 3) := by decide +kernel
theorem dX1_digest_28 : decode cX1_digest 28 = .ok (.goto (-22), 3) := by decide +kernel
theorem dX1_digest_31 : decode cX1_digest 31 = .ok (.iconst 0, 1) := by decide +kernel
theorem dX1_digest_32 : decode cX1_digest 32 = .ok (.istore_n 3, 1) := by decide +kernel
theorem dX1_digest_33 : decode cX1_digest 33 = .ok (.iload_n 3, 1) := by decide +kernel
theorem dX1_digest_34 : decode cX1_digest 34 = .ok (.bipush 12, 2) := by decide +kernel
theorem dX1_digest_36 : decode cX1_digest 36 = .ok (.if_icmp .ge 33, 3) := by decide +kernel
theorem dX1_digest_39 : decode cX1_digest 39 = .ok (.lload_n 1, 1) := by decide +kernel
theorem dX1_digest_40 : decode cX1_digest 40 = .ok (.ldc2_w 199, 3) := by decide +kernel
theorem dX1_digest_43 : decode cX1_digest 43 = .ok (.lmul, 1) := by decide +kernel
theorem dX1_digest_44 : decode cX1_digest 44 = .ok (.bipush 10, 2) := by decide +kernel
theorem dX1_digest_46 : decode cX1_digest 46 = .ok (.aload_n 0, 1) := by decide +kernel
theorem dX1_digest_47 : decode cX1_digest 47 = .ok (.getfield 19, 3) := by decide +kernel
theorem dX1_digest_50 : decode cX1_digest 50 = .ok (.iload_n 3, 1) := by decide +kernel
theorem dX1_digest_51 : decode cX1_digest 51 = .ok (.iaload, 1) := by decide +kernel
theorem dX1_digest_52 : decode cX1_digest 52 = .ok (.imul, 1) := by decide +kernel
theorem dX1_digest_53 : decode cX1_digest 53 = .ok (.aload_n 0, 1) := by decide +kernel
theorem dX1_digest_54 : decode cX1_digest 54 = .ok (.getfield 22, 3) := by decide +kernel
theorem dX1_digest_57 : decode cX1_digest 57 = .ok (.iload_n 3, 1) := by decide +kernel
theorem dX1_digest_58 : decode cX1_digest 58 = .ok (.iaload, 1) := by decide +kernel
theorem dX1_digest_59 : decode cX1_digest 59 = .ok (.iadd, 1) := by decide +kernel
theorem dX1_digest_60 : decode cX1_digest 60 = .ok (.i2l, 1) := by decide +kernel
theorem dX1_digest_61 : decode cX1_digest 61 = .ok (.ladd, 1) := by decide +kernel
theorem dX1_digest_62 : decode cX1_digest 62 = .ok (.lstore_n 1, 1) := by decide +kernel
theorem dX1_digest_63 : decode cX1_digest 63 = .ok (.iinc 3 1, 3) := by decide +kernel
theorem dX1_digest_66 : decode cX1_digest 66 = .ok (.goto (-33), 3) := by decide +kernel
theorem dX1_digest_69 : decode cX1_digest 69 = .ok (.iconst 0, 1) := by decide +kernel
theorem dX1_digest_70 : decode cX1_digest 70 = .ok (.istore_n 3, 1) := by decide +kernel
theorem dX1_digest_71 : decode cX1_digest 71 = .ok (.iload_n 3, 1) := by decide +kernel
theorem dX1_digest_72 : decode cX1_digest 72 = .ok (.bipush 6, 2) := by decide +kernel
theorem dX1_digest_74 : decode cX1_digest 74 = .ok (.if_icmp .ge 29, 3) := by decide +kernel
theorem dX1_digest_77 : decode cX1_digest 77 = .ok (.aload_n 0, 1) := by decide +kernel
theorem dX1_digest_78 : decode cX1_digest 78 = .ok (.getfield 11, 3) := by decide +kernel
theorem dX1_digest_81 : decode cX1_digest 81 = .ok (.iload_n 3, 1) := by decide +kernel
theorem dX1_digest_82 : decode cX1_digest 82 = .ok (.aaload, 1) := by decide +kernel
theorem dX1_digest_83 : decode cX1_digest 83 = .ok (.astore 4, 2) := by decide +kernel
theorem dX1_digest_85 : decode cX1_digest 85 = .ok (.aload 4, 2) := by decide +kernel
theorem dX1_digest_87 : decode cX1_digest 87 = .ok (.ifnull 10, 3) := by decide +kernel
theorem dX1_digest_90 : decode cX1_digest 90 = .ok (.aload 4, 2) := by decide +kernel
theorem dX1_digest_92 : decode cX1_digest 92 = .ok (.lload_n 1, 1) := by decide +kernel
theorem dX1_digest_93 : decode cX1_digest 93 = .ok (.invokestatic 201, 3) := by decide +kernel
theorem dX1_digest_96 : decode cX1_digest 96 = .ok (.lstore_n 1, 1) := by decide +kernel
theorem dX1_digest_97 : decode cX1_digest 97 = .ok (.iinc 3 1, 3) := by decide +kernel
theorem dX1_digest_100 : decode cX1_digest 100 = .ok (.goto (-29), 3) := by decide +kernel
theorem dX1_digest_103 : decode cX1_digest 103 = .ok (.lload_n 1, 1) := by decide +kernel
theorem dX1_digest_104 : decode cX1_digest 104 = .ok (.lreturn, 1) := by decide +kernel
set_option maxRecDepth 20000 in
theorem ggX1_digestRoof_X0_tell : GoodIn wsX1_digestRoof wsX0_tell := goodIn_r _ [6, 7, 8, 9, 10, 11, 12, 13, 14, 15, 5, 16, 17, 18, 19, 20, 21, 22, 23, 24, 25, 26, 27, 28, 29, 30, 31, 32, 33, 34, 35, 36, 37, 65, 66, 67, 68, 69, 70, 71, 72, 73, 74] (by decide +kernel) (by decide +kernel)
set_option maxRecDepth 20000 in
theorem gX1_digestRoof_X0_tell : GoodIn wsX1_digestRoof (wsV RX1 136 RX0 yX0_tell wsX0_tell) := goodIn_app (goodIn_of _ (by decide +kernel)) ggX1_digestRoof_X0_tell
set_option maxRecDepth 20000 in
theorem ggX1_digestRoof_X0_high : GoodIn wsX1_digestRoof wsX0_high := goodIn_r _ [41, 8, 65, 66, 67, 68, 69, 70, 71, 72, 73, 74] (by decide +kernel) (by decide +kernel)
set_option maxRecDepth 20000 in
theorem gX1_digestRoof_X0_high : GoodIn wsX1_digestRoof (wsV RX1 186 RX0 yX0_high wsX0_high) := goodIn_app (goodIn_of _ (by decide +kernel)) ggX1_digestRoof_X0_high
set_option maxRecDepth 20000 in
theorem ggX1_digestRoof_X0_wide : GoodIn wsX1_digestRoof wsX0_wide := goodIn_r _ [45, 7, 65, 66, 67, 68, 69, 70, 71, 72, 73, 74] (by decide +kernel) (by decide +kernel)
set_option maxRecDepth 20000 in
theorem gX1_digestRoof_X0_wide : GoodIn wsX1_digestRoof (wsV RX1 102 RX0 yX0_wide wsX0_wide) := goodIn_app (goodIn_of _ (by decide +kernel)) ggX1_digestRoof_X0_wide
set_option maxRecDepth 20000 in
theorem ggX1_digestRoof_X0_tellYealm : GoodIn wsX1_digestRoof wsX0_tellYealm := goodIn_r _ [49, 50, 25, 51, 52, 17, 18, 19, 5, 20, 21, 22, 23, 24, 8, 7, 53, 54, 55, 56, 57, 58, 59, 60, 61, 62, 63, 64, 65, 66, 67, 68, 69, 70, 71, 72, 73, 74] (by decide +kernel) (by decide +kernel)
set_option maxRecDepth 20000 in
theorem gX1_digestRoof_X0_tellYealm : GoodIn wsX1_digestRoof (wsV RX1 130 RX0 yX0_tellYealm wsX0_tellYealm) := goodIn_app (goodIn_of _ (by decide +kernel)) ggX1_digestRoof_X0_tellYealm
theorem dX1_digestRoof_0 : decode cX1_digestRoof 0 = .ok (.lload_n 1, 1) := by decide +kernel
theorem dX1_digestRoof_1 : decode cX1_digestRoof 1 = .ok (.lstore_n 3, 1) := by decide +kernel
theorem dX1_digestRoof_2 : decode cX1_digestRoof 2 = .ok (.iconst 0, 1) := by decide +kernel
theorem dX1_digestRoof_3 : decode cX1_digestRoof 3 = .ok (.istore 5, 2) := by decide +kernel
theorem dX1_digestRoof_5 : decode cX1_digestRoof 5 = .ok (.iload 5, 2) := by decide +kernel
theorem dX1_digestRoof_7 : decode cX1_digestRoof 7 = .ok (.bipush 9, 2) := by decide +kernel
theorem dX1_digestRoof_9 : decode cX1_digestRoof 9 = .ok (.if_icmp .ge 23, 3) := by decide +kernel
theorem dX1_digestRoof_12 : decode cX1_digestRoof 12 = .ok (.lload_n 3, 1) := by decide +kernel
theorem dX1_digestRoof_13 : decode cX1_digestRoof 13 = .ok (.ldc2_w 199, 3) := by decide +kernel
theorem dX1_digestRoof_16 : decode cX1_digestRoof 16 = .ok (.lmul, 1) := by decide +kernel
theorem dX1_digestRoof_17 : decode cX1_digestRoof 17 = .ok (.aload_n 0, 1) := by decide +kernel
theorem dX1_digestRoof_18 : decode cX1_digestRoof 18 = .ok (.iload 5, 2) := by decide +kernel
theorem dX1_digestRoof_20 : decode cX1_digestRoof 20 = .ok (.invokevirtual 136, 3) := by decide +kernel
theorem dX1_digestRoof_23 : decode cX1_digestRoof 23 = .ok (.i2l, 1) := by decide +kernel
theorem dX1_digestRoof_24 : decode cX1_digestRoof 24 = .ok (.ladd, 1) := by decide +kernel
theorem dX1_digestRoof_25 : decode cX1_digestRoof 25 = .ok (.lstore_n 3, 1) := by decide +kernel
theorem dX1_digestRoof_26 : decode cX1_digestRoof 26 = .ok (.iinc 5 1, 3) := by decide +kernel
theorem dX1_digestRoof_29 : decode cX1_digestRoof 29 = .ok (.goto (-24), 3) := by decide +kernel
theorem dX1_digestRoof_32 : decode cX1_digestRoof 32 = .ok (.iconst 0, 1) := by decide +kernel
theorem dX1_digestRoof_33 : decode cX1_digestRoof 33 = .ok (.istore 5, 2) := by decide +kernel
theorem dX1_digestRoof_35 : decode cX1_digestRoof 35 = .ok (.iload 5, 2) := by decide +kernel
theorem dX1_digestRoof_37 : decode cX1_digestRoof 37 = .ok (.aload_n 0, 1) := by decide +kernel
theorem dX1_digestRoof_38 : decode cX1_digestRoof 38 = .ok (.invokevirtual 186, 3) := by decide +kernel
theorem dX1_digestRoof_41 : decode cX1_digestRoof 41 = .ok (.if_icmp .ge 61, 3) := by decide +kernel
theorem dX1_digestRoof_44 : decode cX1_digestRoof 44 = .ok (.iconst 0, 1) := by decide +kernel
theorem dX1_digestRoof_45 : decode cX1_digestRoof 45 = .ok (.istore 6, 2) := by decide +kernel
theorem dX1_digestRoof_47 : decode cX1_digestRoof 47 = .ok (.iload 6, 2) := by decide +kernel
theorem dX1_digestRoof_49 : decode cX1_digestRoof 49 = .ok (.aload_n 0, 1) := by decide +kernel
theorem dX1_digestRoof_50 : decode cX1_digestRoof 50 = .ok (.invokevirtual 102, 3) := by decide +kernel
theorem dX1_digestRoof_53 : decode cX1_digestRoof 53 = .ok (.if_icmp .ge 43, 3) := by decide +kernel
theorem dX1_digestRoof_56 : decode cX1_digestRoof 56 = .ok (.iconst 0, 1) := by decide +kernel
theorem dX1_digestRoof_57 : decode cX1_digestRoof 57 = .ok (.istore 7, 2) := by decide +kernel
theorem dX1_digestRoof_59 : decode cX1_digestRoof 59 = .ok (.iload 7, 2) := by decide +kernel
theorem dX1_digestRoof_61 : decode cX1_digestRoof 61 = .ok (.bipush 6, 2) := by decide +kernel
theorem dX1_digestRoof_63 : decode cX1_digestRoof 63 = .ok (.if_icmp .ge 27, 3) := by decide +kernel
theorem dX1_digestRoof_66 : decode cX1_digestRoof 66 = .ok (.lload_n 3, 1) := by decide +kernel
theorem dX1_digestRoof_67 : decode cX1_digestRoof 67 = .ok (.ldc2_w 199, 3) := by decide +kernel
theorem dX1_digestRoof_70 : decode cX1_digestRoof 70 = .ok (.lmul, 1) := by decide +kernel
theorem dX1_digestRoof_71 : decode cX1_digestRoof 71 = .ok (.aload_n 0, 1) := by decide +kernel
theorem dX1_digestRoof_72 : decode cX1_digestRoof 72 = .ok (.iload 5, 2) := by decide +kernel
theorem dX1_digestRoof_74 : decode cX1_digestRoof 74 = .ok (.iload 6, 2) := by decide +kernel
theorem dX1_digestRoof_76 : decode cX1_digestRoof 76 = .ok (.iload 7, 2) := by decide +kernel
theorem dX1_digestRoof_78 : decode cX1_digestRoof 78 = .ok (.invokevirtual 130, 3) := by decide +kernel
theorem dX1_digestRoof_81 : decode cX1_digestRoof 81 = .ok (.i2l, 1) := by decide +kernel
theorem dX1_digestRoof_82 : decode cX1_digestRoof 82 = .ok (.ladd, 1) := by decide +kernel
theorem dX1_digestRoof_83 : decode cX1_digestRoof 83 = .ok (.lstore_n 3, 1) := by decide +kernel
theorem dX1_digestRoof_84 : decode cX1_digestRoof 84 = .ok (.iinc 7 1, 3) := by decide +kernel
theorem dX1_digestRoof_87 : decode cX1_digestRoof 87 = .ok (.goto (-28), 3) := by decide +kernel
theorem dX1_digestRoof_90 : decode cX1_digestRoof 90 = .ok (.iinc 6 1, 3) := by decide +kernel
theorem dX1_digestRoof_93 : decode cX1_digestRoof 93 = .ok (.goto (-46), 3) := by decide +kernel
theorem dX1_digestRoof_96 : decode cX1_digestRoof 96 = .ok (.iinc 5 1, 3) := by decide +kernel
theorem dX1_digestRoof_99 : decode cX1_digestRoof 99 = .ok (.goto (-64), 3) := by decide +kernel
theorem dX1_digestRoof_102 : decode cX1_digestRoof 102 = .ok (.lload_n 3, 1) := by decide +kernel
theorem dX1_digestRoof_103 : decode cX1_digestRoof 103 = .ok (.lreturn, 1) := by decide +kernel
theorem dX1_isWithin_0 : decode cX1_isWithin 0 = .ok (.iload_n 0, 1) := by decide +kernel
theorem dX1_isWithin_1 : decode cX1_isWithin 1 = .ok (.iload_n 1, 1) := by decide +kernel
theorem dX1_isWithin_2 : decode cX1_isWithin 2 = .ok (.if_icmp .lt 12, 3) := by decide +kernel
theorem dX1_isWithin_5 : decode cX1_isWithin 5 = .ok (.iload_n 0, 1) := by decide +kernel
theorem dX1_isWithin_6 : decode cX1_isWithin 6 = .ok (.iload_n 2, 1) := by decide +kernel
theorem dX1_isWithin_7 : decode cX1_isWithin 7 = .ok (.if_icmp .gt 7, 3) := by decide +kernel
theorem dX1_isWithin_10 : decode cX1_isWithin 10 = .ok (.iconst 1, 1) := by decide +kernel
theorem dX1_isWithin_11 : decode cX1_isWithin 11 = .ok (.goto 4, 3) := by decide +kernel
theorem dX1_isWithin_14 : decode cX1_isWithin 14 = .ok (.iconst 0, 1) := by decide +kernel
theorem dX1_isWithin_15 : decode cX1_isWithin 15 = .ok (.ireturn, 1) := by decide +kernel
set_option maxRecDepth 20000 in
theorem ggX1_isYealm_X1_isWithin : GoodIn wsX1_isYealm wsX1_isWithin := goodIn_r _ [4] (by decide +kernel) (by decide +kernel)
set_option maxRecDepth 20000 in
theorem gX1_isYealm_X1_isWithin : GoodIn wsX1_isYealm (va_wsS RX1 32 yX1_isWithin wsX1_isWithin) := goodIn_app (goodIn_of _ (by decide +kernel)) ggX1_isYealm_X1_isWithin
theorem dX1_isYealm_0 : decode cX1_isYealm 0 = .ok (.iload_n 0, 1) := by decide +kernel
theorem dX1_isYealm_1 : decode cX1_isYealm 1 = .ok (.iconst 1, 1) := by decide +kernel
theorem dX1_isYealm_2 : decode cX1_isYealm 2 = .ok (.bipush 40, 2) := by decide +kernel
theorem dX1_isYealm_4 : decode cX1_isYealm 4 = .ok (.invokestatic 32, 3) := by decide +kernel
theorem dX1_isYealm_7 : decode cX1_isYealm 7 = .ok (.ifCond .eq 17, 3) := by decide +kernel
theorem dX1_isYealm_10 : decode cX1_isYealm 10 = .ok (.iload_n 1, 1) := by decide +kernel
theorem dX1_isYealm_11 : decode cX1_isYealm 11 = .ok (.iconst 0, 1) := by decide +kernel
theorem dX1_isYealm_12 : decode cX1_isYealm 12 = .ok (.bipush 9, 2) := by decide +kernel
theorem dX1_isYealm_14 : decode cX1_isYealm 14 = .ok (.invokestatic 32, 3) := by decide +kernel
theorem dX1_isYealm_17 : decode cX1_isYealm 17 = .ok (.ifCond .eq 7, 3) := by decide +kernel
theorem dX1_isYealm_20 : decode cX1_isYealm 20 = .ok (.iconst 1, 1) := by decide +kernel
theorem dX1_isYealm_21 : decode cX1_isYealm 21 = .ok (.goto 4, 3) := by decide +kernel
theorem dX1_isYealm_24 : decode cX1_isYealm 24 = .ok (.iconst 0, 1) := by decide +kernel
theorem dX1_isYealm_25 : decode cX1_isYealm 25 = .ok (.ireturn, 1) := by decide +kernel
set_option maxRecDepth 20000 in
theorem ggX1_isKind_X1_isWithin : GoodIn wsX1_isKind wsX1_isWithin := goodIn_r _ [4] (by decide +kernel) (by decide +kernel)
set_option maxRecDepth 20000 in
theorem gX1_isKind_X1_isWithin : GoodIn wsX1_isKind (va_wsS RX1 32 yX1_isWithin wsX1_isWithin) := goodIn_app (goodIn_of _ (by decide +kernel)) ggX1_isKind_X1_isWithin
theorem dX1_isKind_0 : decode cX1_isKind 0 = .ok (.iload_n 0, 1) := by decide +kernel
theorem dX1_isKind_1 : decode cX1_isKind 1 = .ok (.iconst 0, 1) := by decide +kernel
theorem dX1_isKind_2 : decode cX1_isKind 2 = .ok (.iconst 2, 1) := by decide +kernel
theorem dX1_isKind_3 : decode cX1_isKind 3 = .ok (.invokestatic 32, 3) := by decide +kernel
theorem dX1_isKind_6 : decode cX1_isKind 6 = .ok (.ireturn, 1) := by decide +kernel
theorem dX1_bundlesFor_0 : decode cX1_bundlesFor 0 = .ok (.iload_n 0, 1) := by decide +kernel
theorem dX1_bundlesFor_1 : decode cX1_bundlesFor 1 = .ok (.iconst 4, 1) := by decide +kernel
theorem dX1_bundlesFor_2 : decode cX1_bundlesFor 2 = .ok (.idiv, 1) := by decide +kernel
theorem dX1_bundlesFor_3 : decode cX1_bundlesFor 3 = .ok (.iconst 1, 1) := by decide +kernel
theorem dX1_bundlesFor_4 : decode cX1_bundlesFor 4 = .ok (.iadd, 1) := by decide +kernel
theorem dX1_bundlesFor_5 : decode cX1_bundlesFor 5 = .ok (.ireturn, 1) := by decide +kernel
set_option maxRecDepth 20000 in
theorem ggX1_roofAt_X1_isWithin : GoodIn wsX1_roofAt wsX1_isWithin := goodIn_r _ [5] (by decide +kernel) (by decide +kernel)
set_option maxRecDepth 20000 in
theorem gX1_roofAt_X1_isWithin : GoodIn wsX1_roofAt (va_wsS RX1 32 yX1_isWithin wsX1_isWithin) := goodIn_app (goodIn_of _ (by decide +kernel)) ggX1_roofAt_X1_isWithin
theorem dX1_roofAt_0 : decode cX1_roofAt 0 = .ok (.iload_n 1, 1) := by decide +kernel
theorem dX1_roofAt_1 : decode cX1_roofAt 1 = .ok (.iconst 0, 1) := by decide +kernel
theorem dX1_roofAt_2 : decode cX1_roofAt 2 = .ok (.iconst 5, 1) := by decide +kernel
theorem dX1_roofAt_3 : decode cX1_roofAt 3 = .ok (.invokestatic 32, 3) := by decide +kernel
theorem dX1_roofAt_6 : decode cX1_roofAt 6 = .ok (.ifCond .eq 12, 3) := by decide +kernel
theorem dX1_roofAt_9 : decode cX1_roofAt 9 = .ok (.aload_n 0, 1) := by decide +kernel
theorem dX1_roofAt_10 : decode cX1_roofAt 10 = .ok (.getfield 11, 3) := by decide +kernel
theorem dX1_roofAt_13 : decode cX1_roofAt 13 = .ok (.iload_n 1, 1) := by decide +kernel
theorem dX1_roofAt_14 : decode cX1_roofAt 14 = .ok (.aaload, 1) := by decide +kernel
theorem dX1_roofAt_15 : decode cX1_roofAt 15 = .ok (.goto 4, 3) := by decide +kernel
theorem dX1_roofAt_18 : decode cX1_roofAt 18 = .ok (.aconst_null, 1) := by decide +kernel
theorem dX1_roofAt_19 : decode cX1_roofAt 19 = .ok (.areturn, 1) := by decide +kernel
set_option maxRecDepth 20000 in
theorem ggX1_monthOfYear_J9_floorMod_7cf53 : GoodIn wsX1_monthOfYear wsJ9_floorMod_7cf53 := goodIn_r _ [5] (by decide +kernel) (by decide +kernel)
set_option maxRecDepth 20000 in
theorem gX1_monthOfYear_J9_floorMod_7cf53 : GoodIn wsX1_monthOfYear (va_wsS RX1 205 yJ9_floorMod_7cf53 wsJ9_floorMod_7cf53) := goodIn_app (goodIn_of _ (by decide +kernel)) ggX1_monthOfYear_J9_floorMod_7cf53
theorem dX1_monthOfYear_0 : decode cX1_monthOfYear 0 = .ok (.aload_n 0, 1) := by decide +kernel
theorem dX1_monthOfYear_1 : decode cX1_monthOfYear 1 = .ok (.getfield 155, 3) := by decide +kernel
theorem dX1_monthOfYear_4 : decode cX1_monthOfYear 4 = .ok (.iload_n 1, 1) := by decide +kernel
theorem dX1_monthOfYear_5 : decode cX1_monthOfYear 5 = .ok (.iadd, 1) := by decide +kernel
theorem dX1_monthOfYear_6 : decode cX1_monthOfYear 6 = .ok (.bipush 12, 2) := by decide +kernel
theorem dX1_monthOfYear_8 : decode cX1_monthOfYear 8 = .ok (.invokestatic 205, 3) := by decide +kernel
theorem dX1_monthOfYear_11 : decode cX1_monthOfYear 11 = .ok (.ireturn, 1) := by decide +kernel
set_option maxRecDepth 20000 in
theorem ggX1_rainAhead_X1_monthOfYear : GoodIn wsX1_rainAhead wsX1_monthOfYear := goodIn_r _ [6, 7, 8, 9, 10, 11, 12, 13, 14, 15, 16, 17, 18] (by decide +kernel) (by decide +kernel)
set_option maxRecDepth 20000 in
theorem gX1_rainAhead_X1_monthOfYear : GoodIn wsX1_rainAhead (wsV RX1 210 RX1 yX1_monthOfYear wsX1_monthOfYear) := goodIn_app (goodIn_of _ (by decide +kernel)) ggX1_rainAhead_X1_monthOfYear
theorem dX1_rainAhead_0 : decode cX1_rainAhead 0 = .ok (.aload_n 0, 1) := by decide +kernel
theorem dX1_rainAhead_1 : decode cX1_rainAhead 1 = .ok (.getfield 19, 3) := by decide +kernel
theorem dX1_rainAhead_4 : decode cX1_rainAhead 4 = .ok (.aload_n 0, 1) := by decide +kernel
theorem dX1_rainAhead_5 : decode cX1_rainAhead 5 = .ok (.iload_n 1, 1) := by decide +kernel
theorem dX1_rainAhead_6 : decode cX1_rainAhead 6 = .ok (.invokevirtual 210, 3) := by decide +kernel
theorem dX1_rainAhead_9 : decode cX1_rainAhead 9 = .ok (.iaload, 1) := by decide +kernel
theorem dX1_rainAhead_10 : decode cX1_rainAhead 10 = .ok (.ireturn, 1) := by decide +kernel
set_option maxRecDepth 20000 in
theorem ggX1_stormAhead_X1_monthOfYear : GoodIn wsX1_stormAhead wsX1_monthOfYear := goodIn_r _ [6, 7, 8, 9, 10, 11, 12, 13, 14, 15, 16, 17, 18] (by decide +kernel) (by decide +kernel)
set_option maxRecDepth 20000 in
theorem gX1_stormAhead_X1_monthOfYear : GoodIn wsX1_stormAhead (wsV RX1 210 RX1 yX1_monthOfYear wsX1_monthOfYear) := goodIn_app (goodIn_of _ (by decide +kernel)) ggX1_stormAhead_X1_monthOfYear
theorem dX1_stormAhead_0 : decode cX1_stormAhead 0 = .ok (.aload_n 0, 1) := by decide +kernel
theorem dX1_stormAhead_1 : decode cX1_stormAhead 1 = .ok (.getfield 22, 3) := by decide +kernel
theorem dX1_stormAhead_4 : decode cX1_stormAhead 4 = .ok (.aload_n 0, 1) := by decide +kernel
theorem dX1_stormAhead_5 : decode cX1_stormAhead 5 = .ok (.iload_n 1, 1) := by decide +kernel
theorem dX1_stormAhead_6 : decode cX1_stormAhead 6 = .ok (.invokevirtual 210, 3) := by decide +kernel
theorem dX1_stormAhead_9 : decode cX1_stormAhead 9 = .ok (.iaload, 1) := by decide +kernel
theorem dX1_stormAhead_10 : decode cX1_stormAhead 10 = .ok (.ireturn, 1) := by decide +kernel
set_option maxRecDepth 20000 in
theorem ggX1_tally_X1_tallyOfRoofs : GoodIn wsX1_tally wsX1_tallyOfRoofs := goodIn_r _ [8, 9, 10, 11, 12, 13, 14, 15, 16, 17, 18, 19, 20, 21, 22, 23, 24, 25, 26, 27, 28, 29, 30, 31, 32, 33, 34, 35, 36, 37, 38, 39, 40, 41, 42, 43, 44, 45, 64, 65, 66, 67, 68, 69, 70, 71, 72, 73, 74, 75, 76, 77, 78, 79, 80] (by decide +kernel) (by decide +kernel)
set_option maxRecDepth 20000 in
theorem gX1_tally_X1_tallyOfRoofs : GoodIn wsX1_tally (wsV RX1 213 RX1 yX1_tallyOfRoofs wsX1_tallyOfRoofs) := goodIn_app (goodIn_of _ (by decide +kernel)) ggX1_tally_X1_tallyOfRoofs
set_option maxRecDepth 20000 in
theorem ggX1_tally_X1_rainAhead : GoodIn wsX1_tally wsX1_rainAhead := goodIn_r _ [49, 50, 51, 52, 53, 7, 54, 1, 55, 56, 57, 58, 64, 65, 66, 67, 68, 69, 70] (by decide +kernel) (by decide +kernel)
set_option maxRecDepth 20000 in
theorem gX1_tally_X1_rainAhead : GoodIn wsX1_tally (wsV RX1 146 RX1 yX1_rainAhead wsX1_rainAhead) := goodIn_app (goodIn_of _ (by decide +kernel)) ggX1_tally_X1_rainAhead
set_option maxRecDepth 20000 in
theorem ggX1_tally_X1_stormAhead : GoodIn wsX1_tally wsX1_stormAhead := goodIn_r _ [62, 63, 51, 52, 53, 7, 54, 1, 55, 56, 57, 58, 64, 65, 66, 67, 68, 69, 70] (by decide +kernel) (by decide +kernel)
set_option maxRecDepth 20000 in
theorem gX1_tally_X1_stormAhead : GoodIn wsX1_tally (wsV RX1 149 RX1 yX1_stormAhead wsX1_stormAhead) := goodIn_app (goodIn_of _ (by decide +kernel)) ggX1_tally_X1_stormAhead
theorem dX1_tally_0 : decode cX1_tally 0 = .ok (.iload_n 1, 1) := by decide +kernel
theorem dX1_tally_1 : decode cX1_tally 1 = .ok (.tableswitch 85 0 7 #[47, 52, 57, 57, 57, 66, 72, 79], 47) := by decide +kernel
theorem dX1_tally_48 : decode cX1_tally 48 = .ok (.aload_n 0, 1) := by decide +kernel
theorem dX1_tally_49 : decode cX1_tally 49 = .ok (.getfield 155, 3) := by decide +kernel
theorem dX1_tally_52 : decode cX1_tally 52 = .ok (.ireturn, 1) := by decide +kernel
theorem dX1_tally_53 : decode cX1_tally 53 = .ok (.aload_n 0, 1) := by decide +kernel
theorem dX1_tally_54 : decode cX1_tally 54 = .ok (.getfield 43, 3) := by decide +kernel
theorem dX1_tally_57 : decode cX1_tally 57 = .ok (.ireturn, 1) := by decide +kernel
theorem dX1_tally_58 : decode cX1_tally 58 = .ok (.aload_n 0, 1) := by decide +kernel
theorem dX1_tally_59 : decode cX1_tally 59 = .ok (.getfield 15, 3) := by decide +kernel
theorem dX1_tally_62 : decode cX1_tally 62 = .ok (.iload_n 1, 1) := by decide +kernel
theorem dX1_tally_63 : decode cX1_tally 63 = .ok (.iconst 2, 1) := by decide +kernel
theorem dX1_tally_64 : decode cX1_tally 64 = .ok (.isub, 1) := by decide +kernel
theorem dX1_tally_65 : decode cX1_tally 65 = .ok (.iaload, 1) := by decide +kernel
theorem dX1_tally_66 : decode cX1_tally 66 = .ok (.ireturn, 1) := by decide +kernel
theorem dX1_tally_67 : decode cX1_tally 67 = .ok (.aload_n 0, 1) := by decide +kernel
theorem dX1_tally_68 : decode cX1_tally 68 = .ok (.iconst 4, 1) := by decide +kernel
theorem dX1_tally_69 : decode cX1_tally 69 = .ok (.invokevirtual 213, 3) := by decide +kernel
theorem dX1_tally_72 : decode cX1_tally 72 = .ok (.ireturn, 1) := by decide +kernel
theorem dX1_tally_73 : decode cX1_tally 73 = .ok (.aload_n 0, 1) := by decide +kernel
theorem dX1_tally_74 : decode cX1_tally 74 = .ok (.bipush 6, 2) := by decide +kernel
theorem dX1_tally_76 : decode cX1_tally 76 = .ok (.invokevirtual 213, 3) := by decide +kernel
theorem dX1_tally_79 : decode cX1_tally 79 = .ok (.ireturn, 1) := by decide +kernel
theorem dX1_tally_80 : decode cX1_tally 80 = .ok (.aload_n 0, 1) := by decide +kernel
theorem dX1_tally_81 : decode cX1_tally 81 = .ok (.iconst 0, 1) := by decide +kernel
theorem dX1_tally_82 : decode cX1_tally 82 = .ok (.invokevirtual 146, 3) := by decide +kernel
theorem dX1_tally_85 : decode cX1_tally 85 = .ok (.ireturn, 1) := by decide +kernel
theorem dX1_tally_86 : decode cX1_tally 86 = .ok (.aload_n 0, 1) := by decide +kernel
theorem dX1_tally_87 : decode cX1_tally 87 = .ok (.iconst 0, 1) := by decide +kernel
theorem dX1_tally_88 : decode cX1_tally 88 = .ok (.invokevirtual 149, 3) := by decide +kernel
theorem dX1_tally_91 : decode cX1_tally 91 = .ok (.ireturn, 1) := by decide +kernel
set_option maxRecDepth 20000 in
theorem ggX1_tallyOfRoofs_X0_tell : GoodIn wsX1_tallyOfRoofs wsX0_tell := goodIn_r _ [6, 7, 8, 9, 10, 11, 12, 13, 14, 15, 5, 16, 17, 18, 19, 20, 21, 22, 23, 24, 25, 26, 27, 28, 29, 30, 31, 32, 33, 34, 35, 36, 37, 45, 46, 47, 48, 49, 50, 51, 52, 53, 54] (by decide +kernel) (by decide +kernel)
set_option maxRecDepth 20000 in
theorem gX1_tallyOfRoofs_X0_tell : GoodIn wsX1_tallyOfRoofs (wsV RX1 136 RX0 yX0_tell wsX0_tell) := goodIn_app (goodIn_of _ (by decide +kernel)) ggX1_tallyOfRoofs_X0_tell
theorem dX1_tallyOfRoofs_0 : decode cX1_tallyOfRoofs 0 = .ok (.iconst 0, 1) := by decide +kernel
theorem dX1_tallyOfRoofs_1 : decode cX1_tallyOfRoofs 1 = .ok (.istore_n 2, 1) := by decide +kernel
theorem dX1_tallyOfRoofs_2 : decode cX1_tallyOfRoofs 2 = .ok (.iconst 0, 1) := by decide +kernel
theorem dX1_tallyOfRoofs_3 : decode cX1_tallyOfRoofs 3 = .ok (.istore_n 3, 1) := by decide +kernel
theorem dX1_tallyOfRoofs_4 : decode cX1_tallyOfRoofs 4 = .ok (.iload_n 3, 1) := by decide +kernel
theorem dX1_tallyOfRoofs_5 : decode cX1_tallyOfRoofs 5 = .ok (.bipush 6, 2) := by decide +kernel
theorem dX1_tallyOfRoofs_7 : decode cX1_tallyOfRoofs 7 = .ok (.if_icmp .ge 31, 3) := by decide +kernel
theorem dX1_tallyOfRoofs_10 : decode cX1_tallyOfRoofs 10 = .ok (.aload_n 0, 1) := by decide +kernel
theorem dX1_tallyOfRoofs_11 : decode cX1_tallyOfRoofs 11 = .ok (.getfield 11, 3) := by decide +kernel
theorem dX1_tallyOfRoofs_14 : decode cX1_tallyOfRoofs 14 = .ok (.iload_n 3, 1) := by decide +kernel
theorem dX1_tallyOfRoofs_15 : decode cX1_tallyOfRoofs 15 = .ok (.aaload, 1) := by decide +kernel
theorem dX1_tallyOfRoofs_16 : decode cX1_tallyOfRoofs 16 = .ok (.astore 4, 2) := by decide +kernel
theorem dX1_tallyOfRoofs_18 : decode cX1_tallyOfRoofs 18 = .ok (.aload 4, 2) := by decide +kernel
theorem dX1_tallyOfRoofs_20 : decode cX1_tallyOfRoofs 20 = .ok (.ifnull 12, 3) := by decide +kernel
theorem dX1_tallyOfRoofs_23 : decode cX1_tallyOfRoofs 23 = .ok (.iload_n 2, 1) := by decide +kernel
theorem dX1_tallyOfRoofs_24 : decode cX1_tallyOfRoofs 24 = .ok (.aload 4, 2) := by decide +kernel
theorem dX1_tallyOfRoofs_26 : decode cX1_tallyOfRoofs 26 = .ok (.iload_n 1, 1) := by decide +kernel
theorem dX1_tallyOfRoofs_27 : decode cX1_tallyOfRoofs 27 = .ok (.invokevirtual 136, 3) := by decide +kernel
theorem dX1_tallyOfRoofs_30 : decode cX1_tallyOfRoofs 30 = .ok (.iadd, 1) := by decide +kernel
theorem dX1_tallyOfRoofs_31 : decode cX1_tallyOfRoofs 31 = .ok (.istore_n 2, 1) := by decide +kernel
theorem dX1_tallyOfRoofs_32 : decode cX1_tallyOfRoofs 32 = .ok (.iinc 3 1, 3) := by decide +kernel
theorem dX1_tallyOfRoofs_35 : decode cX1_tallyOfRoofs 35 = .ok (.goto (-31), 3) := by decide +kernel
theorem dX1_tallyOfRoofs_38 : decode cX1_tallyOfRoofs 38 = .ok (.iload_n 2, 1) := by decide +kernel
theorem dX1_tallyOfRoofs_39 : decode cX1_tallyOfRoofs 39 = .ok (.ireturn, 1) := by decide +kernel
set_option maxRecDepth 20000 in
theorem ggX1_lostAt_X0_becomeLike : GoodIn wsX1_lostAt wsX0_becomeLike := goodIn_r _ [6, 7, 8, 9, 10, 11, 12, 13, 14, 15, 16, 17, 18, 111, 112, 113, 114, 115, 116, 117, 118, 119, 120] (by decide +kernel) (by decide +kernel)
set_option maxRecDepth 20000 in
theorem gX1_lostAt_X0_becomeLike : GoodIn wsX1_lostAt (wsV RX1 166 RX0 yX0_becomeLike wsX0_becomeLike) := goodIn_app (goodIn_of _ (by decide +kernel)) ggX1_lostAt_X0_becomeLike
set_option maxRecDepth 20000 in
theorem ggX1_lostAt_X0_improve : GoodIn wsX1_lostAt wsX0_improve := goodIn_r _ [22, 18, 17, 23, 24, 25, 26, 16, 27, 28, 29, 5, 30, 31, 32, 33, 34, 8, 7, 35, 36, 37, 38, 111, 112, 113, 114, 115, 116, 117, 118, 119, 120] (by decide +kernel) (by decide +kernel)
set_option maxRecDepth 20000 in
theorem gX1_lostAt_X0_improve : GoodIn wsX1_lostAt (wsV RX1 114 RX0 yX0_improve wsX0_improve) := goodIn_app (goodIn_of _ (by decide +kernel)) ggX1_lostAt_X0_improve
set_option maxRecDepth 20000 in
theorem ggX1_lostAt_X1_rainAhead : GoodIn wsX1_lostAt wsX1_rainAhead := goodIn_r _ [43, 44, 45, 46, 47, 42, 48, 49, 50, 51, 52, 53, 104, 105, 106, 107, 108, 109, 110] (by decide +kernel) (by decide +kernel)
set_option maxRecDepth 20000 in
theorem gX1_lostAt_X1_rainAhead : GoodIn wsX1_lostAt (wsV RX1 146 RX1 yX1_rainAhead wsX1_rainAhead) := goodIn_app (goodIn_of _ (by decide +kernel)) ggX1_lostAt_X1_rainAhead
set_option maxRecDepth 20000 in
theorem ggX1_lostAt_X1_stormAhead : GoodIn wsX1_lostAt wsX1_stormAhead := goodIn_r _ [57, 58, 45, 46, 47, 42, 48, 49, 50, 51, 52, 53, 104, 105, 106, 107, 108, 109, 110] (by decide +kernel) (by decide +kernel)
set_option maxRecDepth 20000 in
theorem gX1_lostAt_X1_stormAhead : GoodIn wsX1_lostAt (wsV RX1 149 RX1 yX1_stormAhead wsX1_stormAhead) := goodIn_app (goodIn_of _ (by decide +kernel)) ggX1_lostAt_X1_stormAhead
set_option maxRecDepth 20000 in
theorem ggX1_lostAt_X0_liveMonthAt : GoodIn wsX1_lostAt wsX0_liveMonthAt := goodIn_r _ [62, 63, 64, 65, 66, 67, 5, 68, 8, 16, 69, 70, 25, 71, 27, 28, 29, 30, 31, 32, 33, 34, 7, 35, 36, 37, 38, 72, 73, 74, 75, 18, 9, 11, 76, 77, 78, 79, 80, 81, 82, 83, 84, 85, 86, 87, 23, 24, 26, 88, 89, 90, 91, 92, 93, 94, 95, 17, 10, 96, 97, 98, 99, 111, 112, 113, 114, 115, 116, 117, 118, 119, 120] (by decide +kernel) (by decide +kernel)
set_option maxRecDepth 20000 in
theorem gX1_lostAt_X0_liveMonthAt : GoodIn wsX1_lostAt (wsV RX1 216 RX0 yX0_liveMonthAt wsX0_liveMonthAt) := goodIn_app (goodIn_of _ (by decide +kernel)) ggX1_lostAt_X0_liveMonthAt
set_option maxRecDepth 20000 in
theorem ggX1_lostAt_X0_wearRidge : GoodIn wsX1_lostAt wsX0_wearRidge := goodIn_r _ [103, 10, 69, 70, 25, 71, 111, 112, 113, 114, 115, 116, 117, 118, 119, 120] (by decide +kernel) (by decide +kernel)
set_option maxRecDepth 20000 in
theorem gX1_lostAt_X0_wearRidge : GoodIn wsX1_lostAt (wsV RX1 219 RX0 yX0_wearRidge wsX0_wearRidge) := goodIn_app (goodIn_of _ (by decide +kernel)) ggX1_lostAt_X0_wearRidge
theorem dX1_lostAt_0 : decode cX1_lostAt 0 = .ok (.aload_n 0, 1) := by decide +kernel
theorem dX1_lostAt_1 : decode cX1_lostAt 1 = .ok (.getfield 28, 3) := by decide +kernel
theorem dX1_lostAt_4 : decode cX1_lostAt 4 = .ok (.aload_n 1, 1) := by decide +kernel
theorem dX1_lostAt_5 : decode cX1_lostAt 5 = .ok (.invokevirtual 166, 3) := by decide +kernel
theorem dX1_lostAt_8 : decode cX1_lostAt 8 = .ok (.aload_n 0, 1) := by decide +kernel
theorem dX1_lostAt_9 : decode cX1_lostAt 9 = .ok (.getfield 28, 3) := by decide +kernel
theorem dX1_lostAt_12 : decode cX1_lostAt 12 = .ok (.iload 4, 2) := by decide +kernel
theorem dX1_lostAt_14 : decode cX1_lostAt 14 = .ok (.iload_n 2, 1) := by decide +kernel
theorem dX1_lostAt_15 : decode cX1_lostAt 15 = .ok (.invokevirtual 114, 3) := by decide +kernel
theorem dX1_lostAt_18 : decode cX1_lostAt 18 = .ok (.iconst 0, 1) := by decide +kernel
theorem dX1_lostAt_19 : decode cX1_lostAt 19 = .ok (.istore 5, 2) := by decide +kernel
theorem dX1_lostAt_21 : decode cX1_lostAt 21 = .ok (.iconst 0, 1) := by decide +kernel
theorem dX1_lostAt_22 : decode cX1_lostAt 22 = .ok (.istore 6, 2) := by decide +kernel
theorem dX1_lostAt_24 : decode cX1_lostAt 24 = .ok (.iload 6, 2) := by decide +kernel
theorem dX1_lostAt_26 : decode cX1_lostAt 26 = .ok (.iload_n 3, 1) := by decide +kernel
theorem dX1_lostAt_27 : decode cX1_lostAt 27 = .ok (.if_icmp .ge 47, 3) := by decide +kernel
theorem dX1_lostAt_30 : decode cX1_lostAt 30 = .ok (.iload 5, 2) := by decide +kernel
theorem dX1_lostAt_32 : decode cX1_lostAt 32 = .ok (.aload_n 0, 1) := by decide +kernel
theorem dX1_lostAt_33 : decode cX1_lostAt 33 = .ok (.getfield 28, 3) := by decide +kernel
theorem dX1_lostAt_36 : decode cX1_lostAt 36 = .ok (.iload_n 2, 1) := by decide +kernel
theorem dX1_lostAt_37 : decode cX1_lostAt 37 = .ok (.aload_n 0, 1) := by decide +kernel
theorem dX1_lostAt_38 : decode cX1_lostAt 38 = .ok (.iload 6, 2) := by decide +kernel
theorem dX1_lostAt_40 : decode cX1_lostAt 40 = .ok (.invokevirtual 146, 3) := by decide +kernel
theorem dX1_lostAt_43 : decode cX1_lostAt 43 = .ok (.aload_n 0, 1) := by decide +kernel
theorem dX1_lostAt_44 : decode cX1_lostAt 44 = .ok (.iload 6, 2) := by decide +kernel
theorem dX1_lostAt_46 : decode cX1_lostAt 46 = .ok (.invokevirtual 149, 3) := by decide +kernel
theorem dX1_lostAt_49 : decode cX1_lostAt 49 = .ok (.invokevirtual 216, 3) := by decide +kernel
theorem dX1_lostAt_52 : decode cX1_lostAt 52 = .ok (.iadd, 1) := by decide +kernel
theorem dX1_lostAt_53 : decode cX1_lostAt 53 = .ok (.istore 5, 2) := by decide +kernel
theorem dX1_lostAt_55 : decode cX1_lostAt 55 = .ok (.aload_n 0, 1) := by decide +kernel
theorem dX1_lostAt_56 : decode cX1_lostAt 56 = .ok (.getfield 28, 3) := by decide +kernel
theorem dX1_lostAt_59 : decode cX1_lostAt 59 = .ok (.aload_n 0, 1) := by decide +kernel
theorem dX1_lostAt_60 : decode cX1_lostAt 60 = .ok (.iload 6, 2) := by decide +kernel
theorem dX1_lostAt_62 : decode cX1_lostAt 62 = .ok (.invokevirtual 149, 3) := by decide +kernel
theorem dX1_lostAt_65 : decode cX1_lostAt 65 = .ok (.invokevirtual 219, 3) := by decide +kernel
theorem dX1_lostAt_68 : decode cX1_lostAt 68 = .ok (.iinc 6 1, 3) := by decide +kernel
theorem dX1_lostAt_71 : decode cX1_lostAt 71 = .ok (.goto (-47), 3) := by decide +kernel
theorem dX1_lostAt_74 : decode cX1_lostAt 74 = .ok (.iload 5, 2) := by decide +kernel
theorem dX1_lostAt_76 : decode cX1_lostAt 76 = .ok (.ireturn, 1) := by decide +kernel
end
section
theorem dJ9_floorMod_7cf53_0 : decode cJ9_floorMod_7cf53 0 = .ok (.iload_n 0, 1) := by decide +kernel
theorem dJ9_floorMod_7cf53_1 : decode cJ9_floorMod_7cf53 1 = .ok (.iload_n 1, 1) := by decide +kernel
theorem dJ9_floorMod_7cf53_2 : decode cJ9_floorMod_7cf53 2 = .ok (.irem, 1) := by decide +kernel
theorem dJ9_floorMod_7cf53_3 : decode cJ9_floorMod_7cf53 3 = .ok (.istore_n 2, 1) := by decide +kernel
theorem dJ9_floorMod_7cf53_4 : decode cJ9_floorMod_7cf53 4 = .ok (.iload_n 0, 1) := by decide +kernel
theorem dJ9_floorMod_7cf53_5 : decode cJ9_floorMod_7cf53 5 = .ok (.iload_n 1, 1) := by decide +kernel
theorem dJ9_floorMod_7cf53_6 : decode cJ9_floorMod_7cf53 6 = .ok (.ixor, 1) := by decide +kernel
theorem dJ9_floorMod_7cf53_7 : decode cJ9_floorMod_7cf53 7 = .ok (.ifCond .ge 11, 3) := by decide +kernel
theorem dJ9_floorMod_7cf53_10 : decode cJ9_floorMod_7cf53 10 = .ok (.iload_n 2, 1) := by decide +kernel
theorem dJ9_floorMod_7cf53_11 : decode cJ9_floorMod_7cf53 11 = .ok (.ifCond .eq 7, 3) := by decide +kernel
theorem dJ9_floorMod_7cf53_14 : decode cJ9_floorMod_7cf53 14 = .ok (.iload_n 2, 1) := by decide +kernel
theorem dJ9_floorMod_7cf53_15 : decode cJ9_floorMod_7cf53 15 = .ok (.iload_n 1, 1) := by decide +kernel
theorem dJ9_floorMod_7cf53_16 : decode cJ9_floorMod_7cf53 16 = .ok (.iadd, 1) := by decide +kernel
theorem dJ9_floorMod_7cf53_17 : decode cJ9_floorMod_7cf53 17 = .ok (.ireturn, 1) := by decide +kernel
theorem dJ9_floorMod_7cf53_18 : decode cJ9_floorMod_7cf53 18 = .ok (.iload_n 2, 1) := by decide +kernel
theorem dJ9_floorMod_7cf53_19 : decode cJ9_floorMod_7cf53 19 = .ok (.ireturn, 1) := by decide +kernel
theorem dJ9_max_7cf53_0 : decode cJ9_max_7cf53 0 = .ok (.iload_n 0, 1) := by decide +kernel
theorem dJ9_max_7cf53_1 : decode cJ9_max_7cf53 1 = .ok (.iload_n 1, 1) := by decide +kernel
theorem dJ9_max_7cf53_2 : decode cJ9_max_7cf53 2 = .ok (.if_icmp .lt 7, 3) := by decide +kernel
theorem dJ9_max_7cf53_5 : decode cJ9_max_7cf53 5 = .ok (.iload_n 0, 1) := by decide +kernel
theorem dJ9_max_7cf53_6 : decode cJ9_max_7cf53 6 = .ok (.goto 4, 3) := by decide +kernel
theorem dJ9_max_7cf53_9 : decode cJ9_max_7cf53 9 = .ok (.iload_n 1, 1) := by decide +kernel
theorem dJ9_max_7cf53_10 : decode cJ9_max_7cf53 10 = .ok (.ireturn, 1) := by decide +kernel
theorem dJ9_min_7cf53_0 : decode cJ9_min_7cf53 0 = .ok (.iload_n 0, 1) := by decide +kernel
theorem dJ9_min_7cf53_1 : decode cJ9_min_7cf53 1 = .ok (.iload_n 1, 1) := by decide +kernel
theorem dJ9_min_7cf53_2 : decode cJ9_min_7cf53 2 = .ok (.if_icmp .gt 7, 3) := by decide +kernel
theorem dJ9_min_7cf53_5 : decode cJ9_min_7cf53 5 = .ok (.iload_n 0, 1) := by decide +kernel
theorem dJ9_min_7cf53_6 : decode cJ9_min_7cf53 6 = .ok (.goto 4, 3) := by decide +kernel
theorem dJ9_min_7cf53_9 : decode cJ9_min_7cf53 9 = .ok (.iload_n 1, 1) := by decide +kernel
theorem dJ9_min_7cf53_10 : decode cJ9_min_7cf53 10 = .ok (.ireturn, 1) := by decide +kernel
set_option maxRecDepth 20000 in
theorem ggL_build_X1_build : GoodIn wsL_build wsX1_build := goodIn_ca (goodIn_ca (goodIn_r _ [7, 8, 9, 10, 11, 12, 13, 14, 15, 16, 17, 18, 6, 19, 20, 21, 22, 23, 24, 25, 26, 27, 28, 29, 30, 31, 32, 33, 34, 35, 36, 37, 38, 39, 40, 41, 42, 43, 44, 45, 46, 47, 48, 49, 50, 51] (by decide +kernel) (by decide +kernel)) (goodIn_sub (fun _ h => List.mem_cons_of_mem _ (List.mem_append_left _ (List.mem_append_right _ h))) (by decide +kernel))) (goodIn_sub (fun _ h => List.mem_cons_of_mem _ (List.mem_append_right _ h)) (by decide +kernel))
set_option maxRecDepth 20000 in
theorem gL_build_X1_build : GoodIn wsL_build (wsV RL 7 RX1 yX1_build wsX1_build) := goodIn_app (goodIn_of _ (by decide +kernel)) ggL_build_X1_build
theorem dL_build_0 : decode cL_build 0 = .ok (.aload 4, 2) := by decide +kernel
theorem dL_build_2 : decode cL_build 2 = .ok (.iconst 0, 1) := by decide +kernel
theorem dL_build_3 : decode cL_build 3 = .ok (.aload_n 0, 1) := by decide +kernel
theorem dL_build_4 : decode cL_build 4 = .ok (.iload_n 1, 1) := by decide +kernel
theorem dL_build_5 : decode cL_build 5 = .ok (.iload_n 2, 1) := by decide +kernel
theorem dL_build_6 : decode cL_build 6 = .ok (.iload_n 3, 1) := by decide +kernel
theorem dL_build_7 : decode cL_build 7 = .ok (.invokevirtual 7, 3) := by decide +kernel
theorem dL_build_10 : decode cL_build 10 = .ok (.i2l, 1) := by decide +kernel
theorem dL_build_11 : decode cL_build 11 = .ok (.lastore, 1) := by decide +kernel
theorem dL_build_12 : decode cL_build 12 = .ok (.goto 11, 3) := by decide +kernel
theorem dL_build_15 : decode cL_build 15 = .ok (.astore 5, 2) := by decide +kernel
theorem dL_build_17 : decode cL_build 17 = .ok (.iconst 1, 1) := by decide +kernel
theorem dL_build_18 : decode cL_build 18 = .ok (.ireturn, 1) := by decide +kernel
theorem dL_build_19 : decode cL_build 19 = .ok (.astore 5, 2) := by decide +kernel
theorem dL_build_21 : decode cL_build 21 = .ok (.iconst 2, 1) := by decide +kernel
theorem dL_build_22 : decode cL_build 22 = .ok (.ireturn, 1) := by decide +kernel
theorem dL_build_23 : decode cL_build 23 = .ok (.iconst 0, 1) := by decide +kernel
theorem dL_build_24 : decode cL_build 24 = .ok (.ireturn, 1) := by decide +kernel
set_option maxRecDepth 20000 in
theorem ggL_bring_X1_bring : GoodIn wsL_bring wsX1_bring := goodIn_ca (goodIn_ca (goodIn_ca (goodIn_r _ [8, 9, 10, 11, 12, 13, 14, 15, 16, 17, 7, 18, 19, 20, 21, 22, 23, 24, 25, 26, 27, 28] (by decide +kernel) (by decide +kernel)) (goodIn_sub (fun _ h => List.mem_cons_of_mem _ (List.mem_append_left _ (List.mem_append_left _ (List.mem_append_right _ h)))) (by decide +kernel))) (goodIn_sub (fun _ h => List.mem_cons_of_mem _ (List.mem_append_left _ (List.mem_append_right _ h))) (by decide +kernel))) (goodIn_sub (fun _ h => List.mem_cons_of_mem _ (List.mem_append_right _ h)) (by decide +kernel))
set_option maxRecDepth 20000 in
theorem gL_bring_X1_bring : GoodIn wsL_bring (wsV RL 17 RX1 yX1_bring wsX1_bring) := goodIn_app (goodIn_of _ (by decide +kernel)) ggL_bring_X1_bring
theorem dL_bring_0 : decode cL_bring 0 = .ok (.aload_n 3, 1) := by decide +kernel
theorem dL_bring_1 : decode cL_bring 1 = .ok (.iconst 0, 1) := by decide +kernel
theorem dL_bring_2 : decode cL_bring 2 = .ok (.aload_n 0, 1) := by decide +kernel
theorem dL_bring_3 : decode cL_bring 3 = .ok (.iload_n 1, 1) := by decide +kernel
theorem dL_bring_4 : decode cL_bring 4 = .ok (.iload_n 2, 1) := by decide +kernel
theorem dL_bring_5 : decode cL_bring 5 = .ok (.invokevirtual 17, 3) := by decide +kernel
theorem dL_bring_8 : decode cL_bring 8 = .ok (.i2l, 1) := by decide +kernel
theorem dL_bring_9 : decode cL_bring 9 = .ok (.lastore, 1) := by decide +kernel
theorem dL_bring_10 : decode cL_bring 10 = .ok (.goto 15, 3) := by decide +kernel
theorem dL_bring_13 : decode cL_bring 13 = .ok (.astore 4, 2) := by decide +kernel
theorem dL_bring_15 : decode cL_bring 15 = .ok (.iconst 1, 1) := by decide +kernel
theorem dL_bring_16 : decode cL_bring 16 = .ok (.ireturn, 1) := by decide +kernel
theorem dL_bring_17 : decode cL_bring 17 = .ok (.astore 4, 2) := by decide +kernel
theorem dL_bring_19 : decode cL_bring 19 = .ok (.iconst 2, 1) := by decide +kernel
theorem dL_bring_20 : decode cL_bring 20 = .ok (.ireturn, 1) := by decide +kernel
theorem dL_bring_21 : decode cL_bring 21 = .ok (.astore 4, 2) := by decide +kernel
theorem dL_bring_23 : decode cL_bring 23 = .ok (.iconst 3, 1) := by decide +kernel
theorem dL_bring_24 : decode cL_bring 24 = .ok (.ireturn, 1) := by decide +kernel
theorem dL_bring_25 : decode cL_bring 25 = .ok (.iconst 0, 1) := by decide +kernel
theorem dL_bring_26 : decode cL_bring 26 = .ok (.ireturn, 1) := by decide +kernel
set_option maxRecDepth 20000 in
theorem ggL_setWeather_X1_setWeather : GoodIn wsL_setWeather wsX1_setWeather := goodIn_ca (goodIn_ca (goodIn_r _ [7, 8, 9, 10, 11, 12, 13, 14, 15, 6, 16, 17, 18, 19, 20, 21, 22, 23] (by decide +kernel) (by decide +kernel)) (goodIn_sub (fun _ h => List.mem_cons_of_mem _ (List.mem_append_left _ (List.mem_append_right _ h))) (by decide +kernel))) (goodIn_sub (fun _ h => List.mem_cons_of_mem _ (List.mem_append_right _ h)) (by decide +kernel))
set_option maxRecDepth 20000 in
theorem gL_setWeather_X1_setWeather : GoodIn wsL_setWeather (wsV RL 23 RX1 yX1_setWeather wsX1_setWeather) := goodIn_app (goodIn_of _ (by decide +kernel)) ggL_setWeather_X1_setWeather
theorem dL_setWeather_0 : decode cL_setWeather 0 = .ok (.aload 4, 2) := by decide +kernel
theorem dL_setWeather_2 : decode cL_setWeather 2 = .ok (.iconst 0, 1) := by decide +kernel
theorem dL_setWeather_3 : decode cL_setWeather 3 = .ok (.aload_n 0, 1) := by decide +kernel
theorem dL_setWeather_4 : decode cL_setWeather 4 = .ok (.iload_n 1, 1) := by decide +kernel
theorem dL_setWeather_5 : decode cL_setWeather 5 = .ok (.iload_n 2, 1) := by decide +kernel
theorem dL_setWeather_6 : decode cL_setWeather 6 = .ok (.iload_n 3, 1) := by decide +kernel
theorem dL_setWeather_7 : decode cL_setWeather 7 = .ok (.invokevirtual 23, 3) := by decide +kernel
theorem dL_setWeather_10 : decode cL_setWeather 10 = .ok (.i2l, 1) := by decide +kernel
theorem dL_setWeather_11 : decode cL_setWeather 11 = .ok (.lastore, 1) := by decide +kernel
theorem dL_setWeather_12 : decode cL_setWeather 12 = .ok (.goto 11, 3) := by decide +kernel
theorem dL_setWeather_15 : decode cL_setWeather 15 = .ok (.astore 5, 2) := by decide +kernel
theorem dL_setWeather_17 : decode cL_setWeather 17 = .ok (.iconst 1, 1) := by decide +kernel
theorem dL_setWeather_18 : decode cL_setWeather 18 = .ok (.ireturn, 1) := by decide +kernel
theorem dL_setWeather_19 : decode cL_setWeather 19 = .ok (.astore 5, 2) := by decide +kernel
theorem dL_setWeather_21 : decode cL_setWeather 21 = .ok (.iconst 2, 1) := by decide +kernel
theorem dL_setWeather_22 : decode cL_setWeather 22 = .ok (.ireturn, 1) := by decide +kernel
theorem dL_setWeather_23 : decode cL_setWeather 23 = .ok (.iconst 0, 1) := by decide +kernel
theorem dL_setWeather_24 : decode cL_setWeather 24 = .ok (.ireturn, 1) := by decide +kernel
set_option maxRecDepth 20000 in
theorem ggL_lay_X1_lay : GoodIn wsL_lay wsX1_lay := goodIn_ca (goodIn_ca (goodIn_ca (goodIn_r _ [8, 9, 10, 11, 12, 13, 14, 15, 16, 17, 18, 7, 19, 20, 21, 22, 23, 24, 25, 26, 27, 28, 29, 30, 31, 32, 33, 34, 35, 36, 37, 38, 39, 40, 41, 42, 43, 44, 45, 46, 47, 48, 49, 50, 51, 52, 53, 54, 55, 56, 57, 58, 59, 60, 61, 62, 63, 64, 65, 66, 67, 68, 69, 70, 71, 72, 73, 74, 75, 76, 77, 78, 79, 80, 81, 82, 83, 84, 85] (by decide +kernel) (by decide +kernel)) (goodIn_sub (fun _ h => List.mem_cons_of_mem _ (List.mem_append_left _ (List.mem_append_left _ (List.mem_append_right _ h)))) (by decide +kernel))) (goodIn_sub (fun _ h => List.mem_cons_of_mem _ (List.mem_append_left _ (List.mem_append_right _ h))) (by decide +kernel))) (goodIn_sub (fun _ h => List.mem_cons_of_mem _ (List.mem_append_right _ h)) (by decide +kernel))
set_option maxRecDepth 20000 in
theorem gL_lay_X1_lay : GoodIn wsL_lay (wsV RL 26 RX1 yX1_lay wsX1_lay) := goodIn_app (goodIn_of _ (by decide +kernel)) ggL_lay_X1_lay
theorem dL_lay_0 : decode cL_lay 0 = .ok (.aload 7, 2) := by decide +kernel
theorem dL_lay_2 : decode cL_lay 2 = .ok (.iconst 0, 1) := by decide +kernel
theorem dL_lay_3 : decode cL_lay 3 = .ok (.aload_n 0, 1) := by decide +kernel
theorem dL_lay_4 : decode cL_lay 4 = .ok (.iload_n 1, 1) := by decide +kernel
theorem dL_lay_5 : decode cL_lay 5 = .ok (.iload_n 2, 1) := by decide +kernel
theorem dL_lay_6 : decode cL_lay 6 = .ok (.iload_n 3, 1) := by decide +kernel
theorem dL_lay_7 : decode cL_lay 7 = .ok (.iload 4, 2) := by decide +kernel
theorem dL_lay_9 : decode cL_lay 9 = .ok (.iload 5, 2) := by decide +kernel
theorem dL_lay_11 : decode cL_lay 11 = .ok (.iload 6, 2) := by decide +kernel
theorem dL_lay_13 : decode cL_lay 13 = .ok (.invokevirtual 26, 3) := by decide +kernel
theorem dL_lay_16 : decode cL_lay 16 = .ok (.i2l, 1) := by decide +kernel
theorem dL_lay_17 : decode cL_lay 17 = .ok (.lastore, 1) := by decide +kernel
theorem dL_lay_18 : decode cL_lay 18 = .ok (.goto 15, 3) := by decide +kernel
theorem dL_lay_21 : decode cL_lay 21 = .ok (.astore 8, 2) := by decide +kernel
theorem dL_lay_23 : decode cL_lay 23 = .ok (.iconst 1, 1) := by decide +kernel
theorem dL_lay_24 : decode cL_lay 24 = .ok (.ireturn, 1) := by decide +kernel
theorem dL_lay_25 : decode cL_lay 25 = .ok (.astore 8, 2) := by decide +kernel
theorem dL_lay_27 : decode cL_lay 27 = .ok (.iconst 2, 1) := by decide +kernel
theorem dL_lay_28 : decode cL_lay 28 = .ok (.ireturn, 1) := by decide +kernel
theorem dL_lay_29 : decode cL_lay 29 = .ok (.astore 8, 2) := by decide +kernel
theorem dL_lay_31 : decode cL_lay 31 = .ok (.iconst 3, 1) := by decide +kernel
theorem dL_lay_32 : decode cL_lay 32 = .ok (.ireturn, 1) := by decide +kernel
theorem dL_lay_33 : decode cL_lay 33 = .ok (.iconst 0, 1) := by decide +kernel
theorem dL_lay_34 : decode cL_lay 34 = .ok (.ireturn, 1) := by decide +kernel
set_option maxRecDepth 20000 in
theorem ggL_layCourse_X1_layCourse : GoodIn wsL_layCourse wsX1_layCourse := goodIn_ca (goodIn_ca (goodIn_r _ [7, 8, 9, 10, 11, 12, 13, 14, 15, 6, 16, 17, 18, 19, 20, 21, 22, 23, 24, 25, 26, 27, 28, 29, 30, 31, 32, 33, 34, 35, 36, 37, 38, 39, 40, 41, 42, 43, 44, 45, 46, 47, 48, 49, 50, 51, 52, 53, 54, 55, 56, 57, 58, 59, 60, 61, 62, 63, 64, 65, 66, 67, 68, 69, 70, 71, 72, 73, 74, 75, 76, 77, 78, 79, 80, 81, 82, 83, 84, 85, 86] (by decide +kernel) (by decide +kernel)) (goodIn_sub (fun _ h => List.mem_cons_of_mem _ (List.mem_append_left _ (List.mem_append_right _ h))) (by decide +kernel))) (goodIn_sub (fun _ h => List.mem_cons_of_mem _ (List.mem_append_right _ h)) (by decide +kernel))
set_option maxRecDepth 20000 in
theorem gL_layCourse_X1_layCourse : GoodIn wsL_layCourse (wsV RL 30 RX1 yX1_layCourse wsX1_layCourse) := goodIn_app (goodIn_of _ (by decide +kernel)) ggL_layCourse_X1_layCourse
theorem dL_layCourse_0 : decode cL_layCourse 0 = .ok (.aload 6, 2) := by decide +kernel
theorem dL_layCourse_2 : decode cL_layCourse 2 = .ok (.iconst 0, 1) := by decide +kernel
theorem dL_layCourse_3 : decode cL_layCourse 3 = .ok (.aload_n 0, 1) := by decide +kernel
theorem dL_layCourse_4 : decode cL_layCourse 4 = .ok (.iload_n 1, 1) := by decide +kernel
theorem dL_layCourse_5 : decode cL_layCourse 5 = .ok (.iload_n 2, 1) := by decide +kernel
theorem dL_layCourse_6 : decode cL_layCourse 6 = .ok (.iload_n 3, 1) := by decide +kernel
theorem dL_layCourse_7 : decode cL_layCourse 7 = .ok (.iload 4, 2) := by decide +kernel
theorem dL_layCourse_9 : decode cL_layCourse 9 = .ok (.iload 5, 2) := by decide +kernel
theorem dL_layCourse_11 : decode cL_layCourse 11 = .ok (.invokevirtual 30, 3) := by decide +kernel
theorem dL_layCourse_14 : decode cL_layCourse 14 = .ok (.i2l, 1) := by decide +kernel
theorem dL_layCourse_15 : decode cL_layCourse 15 = .ok (.lastore, 1) := by decide +kernel
theorem dL_layCourse_16 : decode cL_layCourse 16 = .ok (.goto 11, 3) := by decide +kernel
theorem dL_layCourse_19 : decode cL_layCourse 19 = .ok (.astore 7, 2) := by decide +kernel
theorem dL_layCourse_21 : decode cL_layCourse 21 = .ok (.iconst 1, 1) := by decide +kernel
theorem dL_layCourse_22 : decode cL_layCourse 22 = .ok (.ireturn, 1) := by decide +kernel
theorem dL_layCourse_23 : decode cL_layCourse 23 = .ok (.astore 7, 2) := by decide +kernel
theorem dL_layCourse_25 : decode cL_layCourse 25 = .ok (.iconst 2, 1) := by decide +kernel
theorem dL_layCourse_26 : decode cL_layCourse 26 = .ok (.ireturn, 1) := by decide +kernel
theorem dL_layCourse_27 : decode cL_layCourse 27 = .ok (.iconst 0, 1) := by decide +kernel
theorem dL_layCourse_28 : decode cL_layCourse 28 = .ok (.ireturn, 1) := by decide +kernel
set_option maxRecDepth 20000 in
theorem ggL_mend_X1_mend : GoodIn wsL_mend wsX1_mend := goodIn_ca (goodIn_ca (goodIn_r _ [7, 8, 9, 10, 11, 12, 13, 14, 15, 6, 16, 17, 18, 19, 20, 21, 22, 23, 24, 25, 26, 27, 28, 29, 30, 31, 32, 33, 34, 35, 36, 37, 38, 39, 40, 41, 42, 43, 44, 45, 46, 47, 48, 49, 50, 51, 52, 53, 54, 55, 56, 57, 58, 59, 60, 61, 62, 63, 64, 65, 66, 67, 68, 69, 70, 71, 72, 73, 74, 75, 76, 77, 78, 79, 80] (by decide +kernel) (by decide +kernel)) (goodIn_sub (fun _ h => List.mem_cons_of_mem _ (List.mem_append_left _ (List.mem_append_right _ h))) (by decide +kernel))) (goodIn_sub (fun _ h => List.mem_cons_of_mem _ (List.mem_append_right _ h)) (by decide +kernel))
set_option maxRecDepth 20000 in
theorem gL_mend_X1_mend : GoodIn wsL_mend (wsV RL 34 RX1 yX1_mend wsX1_mend) := goodIn_app (goodIn_of _ (by decide +kernel)) ggL_mend_X1_mend
theorem dL_mend_0 : decode cL_mend 0 = .ok (.aload 4, 2) := by decide +kernel
theorem dL_mend_2 : decode cL_mend 2 = .ok (.iconst 0, 1) := by decide +kernel
theorem dL_mend_3 : decode cL_mend 3 = .ok (.aload_n 0, 1) := by decide +kernel
theorem dL_mend_4 : decode cL_mend 4 = .ok (.iload_n 1, 1) := by decide +kernel
theorem dL_mend_5 : decode cL_mend 5 = .ok (.iload_n 2, 1) := by decide +kernel
theorem dL_mend_6 : decode cL_mend 6 = .ok (.iload_n 3, 1) := by decide +kernel
theorem dL_mend_7 : decode cL_mend 7 = .ok (.invokevirtual 34, 3) := by decide +kernel
theorem dL_mend_10 : decode cL_mend 10 = .ok (.i2l, 1) := by decide +kernel
theorem dL_mend_11 : decode cL_mend 11 = .ok (.lastore, 1) := by decide +kernel
theorem dL_mend_12 : decode cL_mend 12 = .ok (.goto 11, 3) := by decide +kernel
theorem dL_mend_15 : decode cL_mend 15 = .ok (.astore 5, 2) := by decide +kernel
theorem dL_mend_17 : decode cL_mend 17 = .ok (.iconst 1, 1) := by decide +kernel
theorem dL_mend_18 : decode cL_mend 18 = .ok (.ireturn, 1) := by decide +kernel
theorem dL_mend_19 : decode cL_mend 19 = .ok (.astore 5, 2) := by decide +kernel
theorem dL_mend_21 : decode cL_mend 21 = .ok (.iconst 2, 1) := by decide +kernel
theorem dL_mend_22 : decode cL_mend 22 = .ok (.ireturn, 1) := by decide +kernel
theorem dL_mend_23 : decode cL_mend 23 = .ok (.iconst 0, 1) := by decide +kernel
theorem dL_mend_24 : decode cL_mend 24 = .ok (.ireturn, 1) := by decide +kernel
set_option maxRecDepth 20000 in
theorem ggL_bind_X1_bind : GoodIn wsL_bind wsX1_bind := goodIn_ca (goodIn_ca (goodIn_r _ [7, 8, 9, 10, 11, 12, 13, 14, 15, 6, 16, 17, 18, 19, 20, 21, 22, 23, 24, 25, 26, 27, 28, 29, 30, 31, 32, 33, 34, 35, 36, 37, 38, 39, 40, 41, 42, 43, 44, 45, 46, 47, 48] (by decide +kernel) (by decide +kernel)) (goodIn_sub (fun _ h => List.mem_cons_of_mem _ (List.mem_append_left _ (List.mem_append_right _ h))) (by decide +kernel))) (goodIn_sub (fun _ h => List.mem_cons_of_mem _ (List.mem_append_right _ h)) (by decide +kernel))
set_option maxRecDepth 20000 in
theorem gL_bind_X1_bind : GoodIn wsL_bind (wsV RL 37 RX1 yX1_bind wsX1_bind) := goodIn_app (goodIn_of _ (by decide +kernel)) ggL_bind_X1_bind
theorem dL_bind_0 : decode cL_bind 0 = .ok (.aload_n 2, 1) := by decide +kernel
theorem dL_bind_1 : decode cL_bind 1 = .ok (.iconst 0, 1) := by decide +kernel
theorem dL_bind_2 : decode cL_bind 2 = .ok (.aload_n 0, 1) := by decide +kernel
theorem dL_bind_3 : decode cL_bind 3 = .ok (.iload_n 1, 1) := by decide +kernel
theorem dL_bind_4 : decode cL_bind 4 = .ok (.invokevirtual 37, 3) := by decide +kernel
theorem dL_bind_7 : decode cL_bind 7 = .ok (.i2l, 1) := by decide +kernel
theorem dL_bind_8 : decode cL_bind 8 = .ok (.lastore, 1) := by decide +kernel
theorem dL_bind_9 : decode cL_bind 9 = .ok (.goto 9, 3) := by decide +kernel
theorem dL_bind_12 : decode cL_bind 12 = .ok (.astore_n 3, 1) := by decide +kernel
theorem dL_bind_13 : decode cL_bind 13 = .ok (.iconst 1, 1) := by decide +kernel
theorem dL_bind_14 : decode cL_bind 14 = .ok (.ireturn, 1) := by decide +kernel
theorem dL_bind_15 : decode cL_bind 15 = .ok (.astore_n 3, 1) := by decide +kernel
theorem dL_bind_16 : decode cL_bind 16 = .ok (.iconst 2, 1) := by decide +kernel
theorem dL_bind_17 : decode cL_bind 17 = .ok (.ireturn, 1) := by decide +kernel
theorem dL_bind_18 : decode cL_bind 18 = .ok (.iconst 0, 1) := by decide +kernel
theorem dL_bind_19 : decode cL_bind 19 = .ok (.ireturn, 1) := by decide +kernel
set_option maxRecDepth 20000 in
theorem ggL_yealm_X1_yealm : GoodIn wsL_yealm wsX1_yealm := goodIn_ca (goodIn_r _ [6, 7, 8, 9, 10, 11, 5, 12, 13, 14, 15, 16, 17, 18, 19, 20, 21, 22, 23, 24, 25, 26, 27, 28, 29, 30, 31, 32, 33, 34, 35, 36, 37, 38, 39, 40, 41, 42, 43, 44, 45, 46, 47, 48, 49, 50, 51, 52, 53, 54, 55, 56, 57, 58, 59, 60, 61, 62, 63, 64, 65, 66, 67, 68, 69, 70, 71, 72] (by decide +kernel) (by decide +kernel)) (goodIn_sub (fun _ h => List.mem_cons_of_mem _ (List.mem_append_right _ h)) (by decide +kernel))
set_option maxRecDepth 20000 in
theorem gL_yealm_X1_yealm : GoodIn wsL_yealm (wsV RL 41 RX1 yX1_yealm wsX1_yealm) := goodIn_app (goodIn_of _ (by decide +kernel)) ggL_yealm_X1_yealm
theorem dL_yealm_0 : decode cL_yealm 0 = .ok (.aload 5, 2) := by decide +kernel
theorem dL_yealm_2 : decode cL_yealm 2 = .ok (.iconst 0, 1) := by decide +kernel
theorem dL_yealm_3 : decode cL_yealm 3 = .ok (.aload_n 0, 1) := by decide +kernel
theorem dL_yealm_4 : decode cL_yealm 4 = .ok (.iload_n 1, 1) := by decide +kernel
theorem dL_yealm_5 : decode cL_yealm 5 = .ok (.iload_n 2, 1) := by decide +kernel
theorem dL_yealm_6 : decode cL_yealm 6 = .ok (.iload_n 3, 1) := by decide +kernel
theorem dL_yealm_7 : decode cL_yealm 7 = .ok (.iload 4, 2) := by decide +kernel
theorem dL_yealm_9 : decode cL_yealm 9 = .ok (.invokevirtual 41, 3) := by decide +kernel
theorem dL_yealm_12 : decode cL_yealm 12 = .ok (.i2l, 1) := by decide +kernel
theorem dL_yealm_13 : decode cL_yealm 13 = .ok (.lastore, 1) := by decide +kernel
theorem dL_yealm_14 : decode cL_yealm 14 = .ok (.goto 7, 3) := by decide +kernel
theorem dL_yealm_17 : decode cL_yealm 17 = .ok (.astore 6, 2) := by decide +kernel
theorem dL_yealm_19 : decode cL_yealm 19 = .ok (.iconst 1, 1) := by decide +kernel
theorem dL_yealm_20 : decode cL_yealm 20 = .ok (.ireturn, 1) := by decide +kernel
theorem dL_yealm_21 : decode cL_yealm 21 = .ok (.iconst 0, 1) := by decide +kernel
theorem dL_yealm_22 : decode cL_yealm 22 = .ok (.ireturn, 1) := by decide +kernel
set_option maxRecDepth 20000 in
theorem ggL_roof_X1_roof : GoodIn wsL_roof wsX1_roof := goodIn_ca (goodIn_r _ [6, 7, 8, 9, 10, 11, 5, 12, 13, 14, 15, 16, 17, 18, 19, 20, 21, 22, 23, 24, 25, 26, 27, 28, 29, 30, 31, 32, 33, 34, 35, 36, 37, 38, 39, 40, 41, 42, 43, 44, 45, 46, 47, 48, 49, 50, 51, 52, 53, 54, 55, 56, 57, 58, 59, 60, 61, 62, 63, 64, 65, 66, 67, 68, 69] (by decide +kernel) (by decide +kernel)) (goodIn_sub (fun _ h => List.mem_cons_of_mem _ (List.mem_append_right _ h)) (by decide +kernel))
set_option maxRecDepth 20000 in
theorem gL_roof_X1_roof : GoodIn wsL_roof (wsV RL 45 RX1 yX1_roof wsX1_roof) := goodIn_app (goodIn_of _ (by decide +kernel)) ggL_roof_X1_roof
theorem dL_roof_0 : decode cL_roof 0 = .ok (.aload_n 3, 1) := by decide +kernel
theorem dL_roof_1 : decode cL_roof 1 = .ok (.iconst 0, 1) := by decide +kernel
theorem dL_roof_2 : decode cL_roof 2 = .ok (.aload_n 0, 1) := by decide +kernel
theorem dL_roof_3 : decode cL_roof 3 = .ok (.iload_n 1, 1) := by decide +kernel
theorem dL_roof_4 : decode cL_roof 4 = .ok (.iload_n 2, 1) := by decide +kernel
theorem dL_roof_5 : decode cL_roof 5 = .ok (.invokevirtual 45, 3) := by decide +kernel
theorem dL_roof_8 : decode cL_roof 8 = .ok (.i2l, 1) := by decide +kernel
theorem dL_roof_9 : decode cL_roof 9 = .ok (.lastore, 1) := by decide +kernel
theorem dL_roof_10 : decode cL_roof 10 = .ok (.goto 7, 3) := by decide +kernel
theorem dL_roof_13 : decode cL_roof 13 = .ok (.astore 4, 2) := by decide +kernel
theorem dL_roof_15 : decode cL_roof 15 = .ok (.iconst 1, 1) := by decide +kernel
theorem dL_roof_16 : decode cL_roof 16 = .ok (.ireturn, 1) := by decide +kernel
theorem dL_roof_17 : decode cL_roof 17 = .ok (.iconst 0, 1) := by decide +kernel
theorem dL_roof_18 : decode cL_roof 18 = .ok (.ireturn, 1) := by decide +kernel
set_option maxRecDepth 20000 in
theorem ggL_count_X1_count : GoodIn wsL_count wsX1_count := goodIn_ca (goodIn_r _ [6, 7, 8, 9, 10, 5, 11, 12, 13, 14, 15, 16, 17, 18, 19, 20, 21, 22, 23, 24, 25, 26, 27, 28, 29, 30, 31, 32, 33, 34, 35, 36, 37, 38, 39, 40, 41, 42, 43, 44, 45, 46, 47, 48, 49, 50, 51, 52, 53, 54, 55, 56, 57, 58, 59, 60, 61, 62, 63, 64, 65, 66, 67, 68, 69, 70, 71, 72, 73, 74, 75, 76, 77, 78, 79, 80, 81, 82, 83, 84, 85, 86, 87, 88, 89, 90, 91, 92, 93, 94] (by decide +kernel) (by decide +kernel)) (goodIn_sub (fun _ h => List.mem_cons_of_mem _ (List.mem_append_right _ h)) (by decide +kernel))
set_option maxRecDepth 20000 in
theorem gL_count_X1_count : GoodIn wsL_count (wsV RL 48 RX1 yX1_count wsX1_count) := goodIn_app (goodIn_of _ (by decide +kernel)) ggL_count_X1_count
theorem dL_count_0 : decode cL_count 0 = .ok (.aload_n 2, 1) := by decide +kernel
theorem dL_count_1 : decode cL_count 1 = .ok (.iconst 0, 1) := by decide +kernel
theorem dL_count_2 : decode cL_count 2 = .ok (.aload_n 0, 1) := by decide +kernel
theorem dL_count_3 : decode cL_count 3 = .ok (.iload_n 1, 1) := by decide +kernel
theorem dL_count_4 : decode cL_count 4 = .ok (.invokevirtual 48, 3) := by decide +kernel
theorem dL_count_7 : decode cL_count 7 = .ok (.i2l, 1) := by decide +kernel
theorem dL_count_8 : decode cL_count 8 = .ok (.lastore, 1) := by decide +kernel
theorem dL_count_9 : decode cL_count 9 = .ok (.goto 6, 3) := by decide +kernel
theorem dL_count_12 : decode cL_count 12 = .ok (.astore_n 3, 1) := by decide +kernel
theorem dL_count_13 : decode cL_count 13 = .ok (.iconst 1, 1) := by decide +kernel
theorem dL_count_14 : decode cL_count 14 = .ok (.ireturn, 1) := by decide +kernel
theorem dL_count_15 : decode cL_count 15 = .ok (.iconst 0, 1) := by decide +kernel
theorem dL_count_16 : decode cL_count 16 = .ok (.ireturn, 1) := by decide +kernel
set_option maxRecDepth 20000 in
theorem ggL_pass_X1_pass : GoodIn wsL_pass wsX1_pass := goodIn_ca (goodIn_r _ [6, 7, 8, 9, 10, 11, 12, 5, 13, 14, 15, 16, 17, 18, 19, 20, 21, 22, 23, 24, 25, 26, 27, 28, 29, 30, 31, 32, 33, 34, 35, 36, 37, 38, 39, 40, 41, 42, 43, 44, 45, 46, 47, 48, 49, 50, 51, 52, 53, 54, 55, 56, 57, 58, 59, 60, 61, 62, 63, 64, 65, 66, 67, 68, 69, 70, 71, 72, 73, 74, 75, 76, 77, 78, 79, 80, 81, 82, 83, 84, 85, 86, 87, 88, 89, 90, 91, 92, 93, 94, 95, 96, 97, 98, 99, 100, 101, 102, 103, 104, 105, 106, 107, 108, 109, 110, 111, 112, 113, 114, 115, 116, 117, 118, 119, 120, 121, 122] (by decide +kernel) (by decide +kernel)) (goodIn_sub (fun _ h => List.mem_cons_of_mem _ (List.mem_append_right _ h)) (by decide +kernel))
set_option maxRecDepth 20000 in
theorem gL_pass_X1_pass : GoodIn wsL_pass (wsV RL 51 RX1 yX1_pass wsX1_pass) := goodIn_app (goodIn_of _ (by decide +kernel)) ggL_pass_X1_pass
theorem dL_pass_0 : decode cL_pass 0 = .ok (.aload_n 2, 1) := by decide +kernel
theorem dL_pass_1 : decode cL_pass 1 = .ok (.iconst 0, 1) := by decide +kernel
theorem dL_pass_2 : decode cL_pass 2 = .ok (.aload_n 0, 1) := by decide +kernel
theorem dL_pass_3 : decode cL_pass 3 = .ok (.iload_n 1, 1) := by decide +kernel
theorem dL_pass_4 : decode cL_pass 4 = .ok (.invokevirtual 51, 3) := by decide +kernel
theorem dL_pass_7 : decode cL_pass 7 = .ok (.i2l, 1) := by decide +kernel
theorem dL_pass_8 : decode cL_pass 8 = .ok (.lastore, 1) := by decide +kernel
theorem dL_pass_9 : decode cL_pass 9 = .ok (.goto 6, 3) := by decide +kernel
theorem dL_pass_12 : decode cL_pass 12 = .ok (.astore_n 3, 1) := by decide +kernel
theorem dL_pass_13 : decode cL_pass 13 = .ok (.iconst 1, 1) := by decide +kernel
theorem dL_pass_14 : decode cL_pass 14 = .ok (.ireturn, 1) := by decide +kernel
theorem dL_pass_15 : decode cL_pass 15 = .ok (.iconst 0, 1) := by decide +kernel
theorem dL_pass_16 : decode cL_pass 16 = .ok (.ireturn, 1) := by decide +kernel
set_option maxRecDepth 20000 in
theorem ggL_tears_X1_tears : GoodIn wsL_tears wsX1_tears := goodIn_ca (goodIn_ca (goodIn_r _ [7, 8, 9, 10, 11, 12, 13, 14, 6, 15, 16, 17, 18, 19, 20, 21, 22, 23, 24, 25, 26, 27, 28, 29, 30, 31, 32, 33, 34, 35, 36, 37, 38, 39, 40, 41, 42, 43, 44, 45, 46, 47, 48, 49, 50, 51, 52, 53, 54, 55, 56, 57, 58, 59, 60, 61, 62, 63, 64, 65, 66, 67, 68, 69, 70, 71, 72, 73, 74] (by decide +kernel) (by decide +kernel)) (goodIn_sub (fun _ h => List.mem_cons_of_mem _ (List.mem_append_left _ (List.mem_append_right _ h))) (by decide +kernel))) (goodIn_sub (fun _ h => List.mem_cons_of_mem _ (List.mem_append_right _ h)) (by decide +kernel))
set_option maxRecDepth 20000 in
theorem gL_tears_X1_tears : GoodIn wsL_tears (wsV RL 54 RX1 yX1_tears wsX1_tears) := goodIn_app (goodIn_of _ (by decide +kernel)) ggL_tears_X1_tears
theorem dL_tears_0 : decode cL_tears 0 = .ok (.aload_n 3, 1) := by decide +kernel
theorem dL_tears_1 : decode cL_tears 1 = .ok (.iconst 0, 1) := by decide +kernel
theorem dL_tears_2 : decode cL_tears 2 = .ok (.aload_n 0, 1) := by decide +kernel
theorem dL_tears_3 : decode cL_tears 3 = .ok (.iload_n 1, 1) := by decide +kernel
theorem dL_tears_4 : decode cL_tears 4 = .ok (.iload_n 2, 1) := by decide +kernel
theorem dL_tears_5 : decode cL_tears 5 = .ok (.invokevirtual 54, 3) := by decide +kernel
theorem dL_tears_8 : decode cL_tears 8 = .ok (.i2l, 1) := by decide +kernel
theorem dL_tears_9 : decode cL_tears 9 = .ok (.lastore, 1) := by decide +kernel
theorem dL_tears_10 : decode cL_tears 10 = .ok (.goto 11, 3) := by decide +kernel
theorem dL_tears_13 : decode cL_tears 13 = .ok (.astore 4, 2) := by decide +kernel
theorem dL_tears_15 : decode cL_tears 15 = .ok (.iconst 1, 1) := by decide +kernel
theorem dL_tears_16 : decode cL_tears 16 = .ok (.ireturn, 1) := by decide +kernel
theorem dL_tears_17 : decode cL_tears 17 = .ok (.astore 4, 2) := by decide +kernel
theorem dL_tears_19 : decode cL_tears 19 = .ok (.iconst 2, 1) := by decide +kernel
theorem dL_tears_20 : decode cL_tears 20 = .ok (.ireturn, 1) := by decide +kernel
theorem dL_tears_21 : decode cL_tears 21 = .ok (.iconst 0, 1) := by decide +kernel
theorem dL_tears_22 : decode cL_tears 22 = .ok (.ireturn, 1) := by decide +kernel
set_option maxRecDepth 20000 in
theorem ggL_holds_X1_holds : GoodIn wsL_holds wsX1_holds := goodIn_ca (goodIn_r _ [6, 7, 8, 9, 10, 11, 12, 5, 13, 14, 15, 16, 17, 18, 19, 20, 21, 22, 23, 24, 25, 26, 27, 28, 29, 30, 31, 32, 33, 34, 35, 36, 37, 38, 39, 40, 41, 42, 43, 44, 45, 46, 47, 48, 49, 50, 51, 52, 53, 54, 55, 56, 57, 58, 59, 60, 61, 62, 63, 64, 65, 66, 67, 68, 69, 70, 71, 72, 73, 74, 75, 76, 77, 78, 79, 80, 81, 82, 83, 84, 85, 86, 87, 88, 89, 90, 91, 92, 93, 94, 95, 96, 97, 98, 99, 100, 101, 102, 103, 104, 105, 106, 107, 108, 109, 110, 111, 112, 113, 114, 115, 116, 117, 118, 119, 120, 121, 122, 123, 124, 125, 126, 127, 128, 129, 130, 131, 132, 133, 134, 135, 136, 137, 138, 139, 140, 141, 142, 143] (by decide +kernel) (by decide +kernel)) (goodIn_sub (fun _ h => List.mem_cons_of_mem _ (List.mem_append_right _ h)) (by decide +kernel))
set_option maxRecDepth 20000 in
theorem gL_holds_X1_holds : GoodIn wsL_holds (wsV RL 57 RX1 yX1_holds wsX1_holds) := goodIn_app (goodIn_of _ (by decide +kernel)) ggL_holds_X1_holds
theorem dL_holds_0 : decode cL_holds 0 = .ok (.aload_n 2, 1) := by decide +kernel
theorem dL_holds_1 : decode cL_holds 1 = .ok (.iconst 0, 1) := by decide +kernel
theorem dL_holds_2 : decode cL_holds 2 = .ok (.aload_n 0, 1) := by decide +kernel
theorem dL_holds_3 : decode cL_holds 3 = .ok (.iload_n 1, 1) := by decide +kernel
theorem dL_holds_4 : decode cL_holds 4 = .ok (.invokevirtual 57, 3) := by decide +kernel
theorem dL_holds_7 : decode cL_holds 7 = .ok (.i2l, 1) := by decide +kernel
theorem dL_holds_8 : decode cL_holds 8 = .ok (.lastore, 1) := by decide +kernel
theorem dL_holds_9 : decode cL_holds 9 = .ok (.goto 6, 3) := by decide +kernel
theorem dL_holds_12 : decode cL_holds 12 = .ok (.astore_n 3, 1) := by decide +kernel
theorem dL_holds_13 : decode cL_holds 13 = .ok (.iconst 1, 1) := by decide +kernel
theorem dL_holds_14 : decode cL_holds 14 = .ok (.ireturn, 1) := by decide +kernel
theorem dL_holds_15 : decode cL_holds 15 = .ok (.iconst 0, 1) := by decide +kernel
theorem dL_holds_16 : decode cL_holds 16 = .ok (.ireturn, 1) := by decide +kernel
set_option maxRecDepth 20000 in
theorem ggL_foresee_X1_foresee : GoodIn wsL_foresee wsX1_foresee := goodIn_ca (goodIn_ca (goodIn_r _ [7, 8, 9, 10, 11, 12, 13, 14, 15, 6, 16, 17, 18, 19, 20, 21, 22, 23, 24, 25, 26, 27, 28, 29, 30, 31, 32, 33, 34, 35, 36, 37, 38, 39, 40, 41, 42, 43, 44, 45, 46, 47, 48, 49, 50, 51, 52, 53, 54, 55, 56, 57, 58, 59, 60, 61, 62, 63, 64, 65, 66, 67, 68, 69, 70, 71, 72, 73, 74, 75, 76, 77, 78, 79, 80, 81, 82, 83, 84, 85, 86, 87, 88, 89, 90, 91, 92, 93, 94, 95, 96, 97, 98, 99, 100, 101, 102, 103, 104, 105, 106, 107, 108, 109, 110, 111, 112, 113, 114, 115, 116, 117, 118, 119, 120, 121, 122, 123, 124, 125, 126, 127, 128, 129, 130, 131, 132, 133, 134, 135, 136, 137, 138, 139, 140, 141, 142, 143, 144, 145, 146, 147, 148, 149, 150, 151, 152, 153, 154] (by decide +kernel) (by decide +kernel)) (goodIn_sub (fun _ h => List.mem_cons_of_mem _ (List.mem_append_left _ (List.mem_append_right _ h))) (by decide +kernel))) (goodIn_sub (fun _ h => List.mem_cons_of_mem _ (List.mem_append_right _ h)) (by decide +kernel))
set_option maxRecDepth 20000 in
theorem gL_foresee_X1_foresee : GoodIn wsL_foresee (wsV RL 60 RX1 yX1_foresee wsX1_foresee) := goodIn_app (goodIn_of _ (by decide +kernel)) ggL_foresee_X1_foresee
theorem dL_foresee_0 : decode cL_foresee 0 = .ok (.aload 4, 2) := by decide +kernel
theorem dL_foresee_2 : decode cL_foresee 2 = .ok (.iconst 0, 1) := by decide +kernel
theorem dL_foresee_3 : decode cL_foresee 3 = .ok (.aload_n 0, 1) := by decide +kernel
theorem dL_foresee_4 : decode cL_foresee 4 = .ok (.iload_n 1, 1) := by decide +kernel
theorem dL_foresee_5 : decode cL_foresee 5 = .ok (.iload_n 2, 1) := by decide +kernel
theorem dL_foresee_6 : decode cL_foresee 6 = .ok (.iload_n 3, 1) := by decide +kernel
theorem dL_foresee_7 : decode cL_foresee 7 = .ok (.invokevirtual 60, 3) := by decide +kernel
theorem dL_foresee_10 : decode cL_foresee 10 = .ok (.i2l, 1) := by decide +kernel
theorem dL_foresee_11 : decode cL_foresee 11 = .ok (.lastore, 1) := by decide +kernel
theorem dL_foresee_12 : decode cL_foresee 12 = .ok (.goto 11, 3) := by decide +kernel
theorem dL_foresee_15 : decode cL_foresee 15 = .ok (.astore 5, 2) := by decide +kernel
theorem dL_foresee_17 : decode cL_foresee 17 = .ok (.iconst 1, 1) := by decide +kernel
theorem dL_foresee_18 : decode cL_foresee 18 = .ok (.ireturn, 1) := by decide +kernel
theorem dL_foresee_19 : decode cL_foresee 19 = .ok (.astore 5, 2) := by decide +kernel
theorem dL_foresee_21 : decode cL_foresee 21 = .ok (.iconst 2, 1) := by decide +kernel
theorem dL_foresee_22 : decode cL_foresee 22 = .ok (.ireturn, 1) := by decide +kernel
theorem dL_foresee_23 : decode cL_foresee 23 = .ok (.iconst 0, 1) := by decide +kernel
theorem dL_foresee_24 : decode cL_foresee 24 = .ok (.ireturn, 1) := by decide +kernel
set_option maxRecDepth 20000 in
theorem ggL_advise_X1_advise : GoodIn wsL_advise wsX1_advise := goodIn_ca (goodIn_ca (goodIn_r _ [7, 8, 9, 10, 11, 12, 13, 14, 6, 15, 16, 17, 18, 19, 20, 21, 22, 23, 24, 25, 26, 27, 28, 29, 30, 31, 32, 33, 34, 35, 36, 37, 38, 39, 40, 41, 42, 43, 44, 45, 46, 47, 48, 49, 50, 51, 52, 53, 54, 55, 56, 57, 58, 59, 60, 61, 62, 63, 64, 65, 66, 67, 68, 69, 70, 71, 72, 73, 74, 75, 76, 77, 78, 79, 80, 81, 82, 83, 84, 85, 86, 87, 88, 89, 90, 91, 92, 93, 94, 95, 96, 97, 98, 99, 100, 101, 102, 103, 104, 105, 106, 107, 108, 109, 110, 111, 112, 113, 114, 115, 116, 117, 118, 119, 120, 121, 122, 123, 124, 125, 126, 127, 128, 129, 130, 131, 132, 133, 134, 135, 136, 137, 138, 139, 140, 141, 142, 143, 144, 145, 146, 147, 148, 149, 150, 151] (by decide +kernel) (by decide +kernel)) (goodIn_sub (fun _ h => List.mem_cons_of_mem _ (List.mem_append_left _ (List.mem_append_right _ h))) (by decide +kernel))) (goodIn_sub (fun _ h => List.mem_cons_of_mem _ (List.mem_append_right _ h)) (by decide +kernel))
set_option maxRecDepth 20000 in
theorem gL_advise_X1_advise : GoodIn wsL_advise (wsV RL 63 RX1 yX1_advise wsX1_advise) := goodIn_app (goodIn_of _ (by decide +kernel)) ggL_advise_X1_advise
theorem dL_advise_0 : decode cL_advise 0 = .ok (.aload_n 3, 1) := by decide +kernel
theorem dL_advise_1 : decode cL_advise 1 = .ok (.iconst 0, 1) := by decide +kernel
theorem dL_advise_2 : decode cL_advise 2 = .ok (.aload_n 0, 1) := by decide +kernel
theorem dL_advise_3 : decode cL_advise 3 = .ok (.iload_n 1, 1) := by decide +kernel
theorem dL_advise_4 : decode cL_advise 4 = .ok (.iload_n 2, 1) := by decide +kernel
theorem dL_advise_5 : decode cL_advise 5 = .ok (.invokevirtual 63, 3) := by decide +kernel
theorem dL_advise_8 : decode cL_advise 8 = .ok (.i2l, 1) := by decide +kernel
theorem dL_advise_9 : decode cL_advise 9 = .ok (.lastore, 1) := by decide +kernel
theorem dL_advise_10 : decode cL_advise 10 = .ok (.goto 11, 3) := by decide +kernel
theorem dL_advise_13 : decode cL_advise 13 = .ok (.astore 4, 2) := by decide +kernel
theorem dL_advise_15 : decode cL_advise 15 = .ok (.iconst 1, 1) := by decide +kernel
theorem dL_advise_16 : decode cL_advise 16 = .ok (.ireturn, 1) := by decide +kernel
theorem dL_advise_17 : decode cL_advise 17 = .ok (.astore 4, 2) := by decide +kernel
theorem dL_advise_19 : decode cL_advise 19 = .ok (.iconst 2, 1) := by decide +kernel
theorem dL_advise_20 : decode cL_advise 20 = .ok (.ireturn, 1) := by decide +kernel
theorem dL_advise_21 : decode cL_advise 21 = .ok (.iconst 0, 1) := by decide +kernel
theorem dL_advise_22 : decode cL_advise 22 = .ok (.ireturn, 1) := by decide +kernel
set_option maxRecDepth 20000 in
theorem ggL_needs_X1_needs : GoodIn wsL_needs wsX1_needs := goodIn_ca (goodIn_ca (goodIn_r _ [7, 8, 9, 10, 11, 12, 13, 14, 6, 15, 16, 17, 18, 19, 20, 21, 22, 23, 24, 25, 26, 27, 28, 29, 30, 31, 32, 33, 34, 35, 36, 37, 38, 39, 40, 41, 42, 43, 44, 45, 46, 47, 48, 49, 50, 51, 52, 53, 54, 55, 56, 57, 58, 59, 60, 61, 62, 63] (by decide +kernel) (by decide +kernel)) (goodIn_sub (fun _ h => List.mem_cons_of_mem _ (List.mem_append_left _ (List.mem_append_right _ h))) (by decide +kernel))) (goodIn_sub (fun _ h => List.mem_cons_of_mem _ (List.mem_append_right _ h)) (by decide +kernel))
set_option maxRecDepth 20000 in
theorem gL_needs_X1_needs : GoodIn wsL_needs (wsV RL 66 RX1 yX1_needs wsX1_needs) := goodIn_app (goodIn_of _ (by decide +kernel)) ggL_needs_X1_needs
theorem dL_needs_0 : decode cL_needs 0 = .ok (.aload_n 3, 1) := by decide +kernel
theorem dL_needs_1 : decode cL_needs 1 = .ok (.iconst 0, 1) := by decide +kernel
theorem dL_needs_2 : decode cL_needs 2 = .ok (.aload_n 0, 1) := by decide +kernel
theorem dL_needs_3 : decode cL_needs 3 = .ok (.iload_n 1, 1) := by decide +kernel
theorem dL_needs_4 : decode cL_needs 4 = .ok (.iload_n 2, 1) := by decide +kernel
theorem dL_needs_5 : decode cL_needs 5 = .ok (.invokevirtual 66, 3) := by decide +kernel
theorem dL_needs_8 : decode cL_needs 8 = .ok (.i2l, 1) := by decide +kernel
theorem dL_needs_9 : decode cL_needs 9 = .ok (.lastore, 1) := by decide +kernel
theorem dL_needs_10 : decode cL_needs 10 = .ok (.goto 11, 3) := by decide +kernel
theorem dL_needs_13 : decode cL_needs 13 = .ok (.astore 4, 2) := by decide +kernel
theorem dL_needs_15 : decode cL_needs 15 = .ok (.iconst 1, 1) := by decide +kernel
theorem dL_needs_16 : decode cL_needs 16 = .ok (.ireturn, 1) := by decide +kernel
theorem dL_needs_17 : decode cL_needs 17 = .ok (.astore 4, 2) := by decide +kernel
theorem dL_needs_19 : decode cL_needs 19 = .ok (.iconst 2, 1) := by decide +kernel
theorem dL_needs_20 : decode cL_needs 20 = .ok (.ireturn, 1) := by decide +kernel
theorem dL_needs_21 : decode cL_needs 21 = .ok (.iconst 0, 1) := by decide +kernel
theorem dL_needs_22 : decode cL_needs 22 = .ok (.ireturn, 1) := by decide +kernel
end
section
/-! what a start gives beside the tables' words - which exceptions are which, the statics that a throw reads, the written texts - and plain numbers -/
/-- a number within bounds, as the code asks it -/
def zIn (x lo hi : Int32) : Prop := ¬ x < lo ∧ ¬ hi < x
theorem zIn_in {x hi : Int32} {n : Nat} (h : zIn x 0 hi) (hn : hi.toInt < (n : Int)) : vp_in x n := by
  refine vp_in_iff.mpr ⟨?_, ?_⟩
  · have h1 := h.1
    rw [Int32.lt_iff_toInt_lt] at h1
    have h2 : (0 : Int32).toInt = 0 := by decide
    omega
  · have h1 := h.2
    rw [Int32.lt_iff_toInt_lt] at h1
    omega
theorem zIn_toInt {x lo hi : Int32} (h : zIn x lo hi) : lo.toInt ≤ x.toInt ∧ x.toInt ≤ hi.toInt := by
  obtain ⟨h1, h2⟩ := h
  rw [Int32.lt_iff_toInt_lt] at h1 h2
  omega
/-- what count() tells of a village just made -/
def zTal (x : Int32) : Int32 := if x = 7 then 4 else 0
theorem zIn_cl {x hi : Int32} {n : Nat} (h : zIn x 0 hi) (hn : hi.toInt < (n : Int)) : x.toNatClampNeg < n := Nat.lt_of_not_le (fun q => zIn_in h hn (Or.inr q))
theorem zIn_nat {x hi : Int32} (N : Nat) (h : zIn x 1 hi) (hn : hi.toInt = (N : Int)) (hN : N < 2 ^ 31) : ∃ n : Nat, 1 ≤ n ∧ n ≤ N ∧ x = nI n := by
  have h1 := zIn_toInt h
  have h2 : (1 : Int32).toInt = 1 := by decide
  refine ⟨x.toInt.toNat, by omega, by omega, ?_⟩
  apply Int32.toInt_inj.mp
  rw [nI_toInt (by omega)]
  omega
theorem zIn_no {x : Int32} : ¬ zIn x 0 (-1) := fun h => by
  have h1 := zIn_toInt h
  have h2 : (0 : Int32).toInt = 0 := by decide
  have h3 : (-1 : Int32).toInt = -1 := by decide
  omega
theorem zCmp {x y : Int64} (h : x = y) : lg_cmp x y = 0 := by
  subst h
  simp [lg_cmp]
def zX (U : State) : Prop := va_Nw (.castable "java/lang/IllegalArgumentException" "java/lang/IllegalArgumentException") U ∧ va_Nw (.castable "java/lang/IllegalStateException" "java/lang/IllegalStateException") U ∧ va_Nw (.castable "java/lang/IndexOutOfBoundsException" "java/lang/IndexOutOfBoundsException") U ∧ va_Nc "java/lang/IllegalArgumentException" "java/lang/IllegalStateException" U ∧ va_Nc "java/lang/IllegalArgumentException" "java/lang/IndexOutOfBoundsException" U ∧ va_Nc "java/lang/IllegalStateException" "java/lang/IllegalArgumentException" U ∧ va_Nc "java/lang/IllegalStateException" "java/lang/IndexOutOfBoundsException" U ∧ va_Nc "java/lang/IndexOutOfBoundsException" "java/lang/IllegalArgumentException" U ∧ va_Nc "java/lang/IndexOutOfBoundsException" "java/lang/IllegalStateException" U ∧ va_AO RX0 U ∧ va_Nw (.declares (Bundle.initS "java/lang/RuntimeException")) U ∧ va_Nw (.declares (Bundle.initS "java/lang/Exception")) U ∧ va_Nw (.declares (Bundle.initS Bundle.tN)) U ∧ (∃ a : Nat, vk_R RX1 38 "no such shape of a roof" a U) ∧ (∃ a : Nat, vk_R RX1 49 "there are 6 roofs" a U) ∧ (∃ a : Nat, vk_R RX1 58 "no such kind" a U) ∧ (∃ a : Nat, vk_R RX1 61 "not 1 to 500 bundles" a U) ∧ (∃ a : Nat, vk_R RX1 63 "more than the barn holds" a U) ∧ (∃ a : Nat, vk_R RX1 65 "no such month of the year" a U) ∧ (∃ a : Nat, vk_R RX1 67 "rain or storm not 0 to 9" a U) ∧ (∃ a : Nat, vk_R RX1 77 "no such roof, course, place or kind" a U) ∧ (∃ a : Nat, vk_R RX1 82 "thickness not 1 to 40, or spars not 0 to 9" a U) ∧ (∃ a : Nat, vk_R RX1 91 "a yealm is there, none is below, or the bundles are too few" a U) ∧ (∃ a : Nat, vk_R RX1 100 "no such roof, course or kind" a U) ∧ (∃ a : Nat, vk_R RX1 106 "no such roof, course or place" a U) ∧ (∃ a : Nat, vk_R RX1 112 "no yealm is there, or the bundles are too few" a U) ∧ (∃ a : Nat, vk_R RX1 121 "no such roof" a U) ∧ (∃ a : Nat, vk_R RX1 123 "the bundles of heather are too few" a U) ∧ (∃ a : Nat, vk_R RX1 128 "no such roof, course or place, or nothing told by this number" a U) ∧ (∃ a : Nat, vk_R RX1 134 "no such roof, or nothing told by this number" a U) ∧ (∃ a : Nat, vk_R RX1 139 "nothing counted by this number" a U) ∧ (∃ a : Nat, vk_R RX1 144 "not 1 to 120 months" a U) ∧ (∃ a : Nat, vk_R RX1 158 "storm not 0 to 9" a U) ∧ (∃ a : Nat, vk_R RX1 170 "no such roof, or nothing foreseen by this number" a U) ∧ (∃ a : Nat, vk_R RX1 172 "not 1 to 60 months" a U) ∧ (∃ a : Nat, vk_R RX1 180 "not 1 to 24 months" a U) ∧ (∃ a : Nat, vk_R RX1 192 "thickness not 1 to 40" a U)
theorem zX_cA {U : State} (h : zX U) : va_Nw (.castable "java/lang/IllegalArgumentException" "java/lang/IllegalArgumentException") U := h.1
theorem zX_cS {U : State} (h : zX U) : va_Nw (.castable "java/lang/IllegalStateException" "java/lang/IllegalStateException") U := h.2.1
theorem zX_cB {U : State} (h : zX U) : va_Nw (.castable "java/lang/IndexOutOfBoundsException" "java/lang/IndexOutOfBoundsException") U := h.2.2.1
theorem zX_nAS {U : State} (h : zX U) : va_Nc "java/lang/IllegalArgumentException" "java/lang/IllegalStateException" U := h.2.2.2.1
theorem zX_nAB {U : State} (h : zX U) : va_Nc "java/lang/IllegalArgumentException" "java/lang/IndexOutOfBoundsException" U := h.2.2.2.2.1
theorem zX_nSA {U : State} (h : zX U) : va_Nc "java/lang/IllegalStateException" "java/lang/IllegalArgumentException" U := h.2.2.2.2.2.1
theorem zX_nSB {U : State} (h : zX U) : va_Nc "java/lang/IllegalStateException" "java/lang/IndexOutOfBoundsException" U := h.2.2.2.2.2.2.1
theorem zX_nBA {U : State} (h : zX U) : va_Nc "java/lang/IndexOutOfBoundsException" "java/lang/IllegalArgumentException" U := h.2.2.2.2.2.2.2.1
theorem zX_nBS {U : State} (h : zX U) : va_Nc "java/lang/IndexOutOfBoundsException" "java/lang/IllegalStateException" U := h.2.2.2.2.2.2.2.2.1
theorem zX_over {U : State} (h : zX U) : va_AO RX0 U := h.2.2.2.2.2.2.2.2.2.1
theorem zX_d0 {U : State} (h : zX U) : va_Nw (.declares (Bundle.initS "java/lang/RuntimeException")) U := h.2.2.2.2.2.2.2.2.2.2.1
theorem zX_d1 {U : State} (h : zX U) : va_Nw (.declares (Bundle.initS "java/lang/Exception")) U := h.2.2.2.2.2.2.2.2.2.2.2.1
theorem zX_d2 {U : State} (h : zX U) : va_Nw (.declares (Bundle.initS Bundle.tN)) U := h.2.2.2.2.2.2.2.2.2.2.2.2.1
theorem zX_str_RX1_38 {U : State} (h : zX U) : ∃ a : Nat, vk_R RX1 38 "no such shape of a roof" a U := h.2.2.2.2.2.2.2.2.2.2.2.2.2.1
theorem zX_str_RX1_49 {U : State} (h : zX U) : ∃ a : Nat, vk_R RX1 49 "there are 6 roofs" a U := h.2.2.2.2.2.2.2.2.2.2.2.2.2.2.1
theorem zX_str_RX1_58 {U : State} (h : zX U) : ∃ a : Nat, vk_R RX1 58 "no such kind" a U := h.2.2.2.2.2.2.2.2.2.2.2.2.2.2.2.1
theorem zX_str_RX1_61 {U : State} (h : zX U) : ∃ a : Nat, vk_R RX1 61 "not 1 to 500 bundles" a U := h.2.2.2.2.2.2.2.2.2.2.2.2.2.2.2.2.1
theorem zX_str_RX1_63 {U : State} (h : zX U) : ∃ a : Nat, vk_R RX1 63 "more than the barn holds" a U := h.2.2.2.2.2.2.2.2.2.2.2.2.2.2.2.2.2.1
theorem zX_str_RX1_65 {U : State} (h : zX U) : ∃ a : Nat, vk_R RX1 65 "no such month of the year" a U := h.2.2.2.2.2.2.2.2.2.2.2.2.2.2.2.2.2.2.1
theorem zX_str_RX1_67 {U : State} (h : zX U) : ∃ a : Nat, vk_R RX1 67 "rain or storm not 0 to 9" a U := h.2.2.2.2.2.2.2.2.2.2.2.2.2.2.2.2.2.2.2.1
theorem zX_str_RX1_77 {U : State} (h : zX U) : ∃ a : Nat, vk_R RX1 77 "no such roof, course, place or kind" a U := h.2.2.2.2.2.2.2.2.2.2.2.2.2.2.2.2.2.2.2.2.1
theorem zX_str_RX1_82 {U : State} (h : zX U) : ∃ a : Nat, vk_R RX1 82 "thickness not 1 to 40, or spars not 0 to 9" a U := h.2.2.2.2.2.2.2.2.2.2.2.2.2.2.2.2.2.2.2.2.2.1
theorem zX_str_RX1_91 {U : State} (h : zX U) : ∃ a : Nat, vk_R RX1 91 "a yealm is there, none is below, or the bundles are too few" a U := h.2.2.2.2.2.2.2.2.2.2.2.2.2.2.2.2.2.2.2.2.2.2.1
theorem zX_str_RX1_100 {U : State} (h : zX U) : ∃ a : Nat, vk_R RX1 100 "no such roof, course or kind" a U := h.2.2.2.2.2.2.2.2.2.2.2.2.2.2.2.2.2.2.2.2.2.2.2.1
theorem zX_str_RX1_106 {U : State} (h : zX U) : ∃ a : Nat, vk_R RX1 106 "no such roof, course or place" a U := h.2.2.2.2.2.2.2.2.2.2.2.2.2.2.2.2.2.2.2.2.2.2.2.2.1
theorem zX_str_RX1_112 {U : State} (h : zX U) : ∃ a : Nat, vk_R RX1 112 "no yealm is there, or the bundles are too few" a U := h.2.2.2.2.2.2.2.2.2.2.2.2.2.2.2.2.2.2.2.2.2.2.2.2.2.1
theorem zX_str_RX1_121 {U : State} (h : zX U) : ∃ a : Nat, vk_R RX1 121 "no such roof" a U := h.2.2.2.2.2.2.2.2.2.2.2.2.2.2.2.2.2.2.2.2.2.2.2.2.2.2.1
theorem zX_str_RX1_123 {U : State} (h : zX U) : ∃ a : Nat, vk_R RX1 123 "the bundles of heather are too few" a U := h.2.2.2.2.2.2.2.2.2.2.2.2.2.2.2.2.2.2.2.2.2.2.2.2.2.2.2.1
theorem zX_str_RX1_128 {U : State} (h : zX U) : ∃ a : Nat, vk_R RX1 128 "no such roof, course or place, or nothing told by this number" a U := h.2.2.2.2.2.2.2.2.2.2.2.2.2.2.2.2.2.2.2.2.2.2.2.2.2.2.2.2.1
theorem zX_str_RX1_134 {U : State} (h : zX U) : ∃ a : Nat, vk_R RX1 134 "no such roof, or nothing told by this number" a U := h.2.2.2.2.2.2.2.2.2.2.2.2.2.2.2.2.2.2.2.2.2.2.2.2.2.2.2.2.2.1
theorem zX_str_RX1_139 {U : State} (h : zX U) : ∃ a : Nat, vk_R RX1 139 "nothing counted by this number" a U := h.2.2.2.2.2.2.2.2.2.2.2.2.2.2.2.2.2.2.2.2.2.2.2.2.2.2.2.2.2.2.1
theorem zX_str_RX1_144 {U : State} (h : zX U) : ∃ a : Nat, vk_R RX1 144 "not 1 to 120 months" a U := h.2.2.2.2.2.2.2.2.2.2.2.2.2.2.2.2.2.2.2.2.2.2.2.2.2.2.2.2.2.2.2.1
theorem zX_str_RX1_158 {U : State} (h : zX U) : ∃ a : Nat, vk_R RX1 158 "storm not 0 to 9" a U := h.2.2.2.2.2.2.2.2.2.2.2.2.2.2.2.2.2.2.2.2.2.2.2.2.2.2.2.2.2.2.2.2.1
theorem zX_str_RX1_170 {U : State} (h : zX U) : ∃ a : Nat, vk_R RX1 170 "no such roof, or nothing foreseen by this number" a U := h.2.2.2.2.2.2.2.2.2.2.2.2.2.2.2.2.2.2.2.2.2.2.2.2.2.2.2.2.2.2.2.2.2.1
theorem zX_str_RX1_172 {U : State} (h : zX U) : ∃ a : Nat, vk_R RX1 172 "not 1 to 60 months" a U := h.2.2.2.2.2.2.2.2.2.2.2.2.2.2.2.2.2.2.2.2.2.2.2.2.2.2.2.2.2.2.2.2.2.2.1
theorem zX_str_RX1_180 {U : State} (h : zX U) : ∃ a : Nat, vk_R RX1 180 "not 1 to 24 months" a U := h.2.2.2.2.2.2.2.2.2.2.2.2.2.2.2.2.2.2.2.2.2.2.2.2.2.2.2.2.2.2.2.2.2.2.2.1
theorem zX_str_RX1_192 {U : State} (h : zX U) : ∃ a : Nat, vk_R RX1 192 "thickness not 1 to 40" a U := h.2.2.2.2.2.2.2.2.2.2.2.2.2.2.2.2.2.2.2.2.2.2.2.2.2.2.2.2.2.2.2.2.2.2.2.2
theorem zX.warm {s U : State} (hW : s.WarmedH U.vm) (h : zX s) : zX U := ⟨va_Nw.warmC hW (zX_cA h), va_Nw.warmC hW (zX_cS h), va_Nw.warmC hW (zX_cB h), va_Nc.moved hW.alike (zX_nAS h), va_Nc.moved hW.alike (zX_nAB h), va_Nc.moved hW.alike (zX_nSA h), va_Nc.moved hW.alike (zX_nSB h), va_Nc.moved hW.alike (zX_nBA h), va_Nc.moved hW.alike (zX_nBS h), va_AO.moved hW.alike (zX_over h), va_Nw.warmD hW (zX_d0 h), va_Nw.warmD hW (zX_d1 h), va_Nw.warmD hW (zX_d2 h), (zX_str_RX1_38 h).imp (fun _ q => vk_R.warm hW q), (zX_str_RX1_49 h).imp (fun _ q => vk_R.warm hW q), (zX_str_RX1_58 h).imp (fun _ q => vk_R.warm hW q), (zX_str_RX1_61 h).imp (fun _ q => vk_R.warm hW q), (zX_str_RX1_63 h).imp (fun _ q => vk_R.warm hW q), (zX_str_RX1_65 h).imp (fun _ q => vk_R.warm hW q), (zX_str_RX1_67 h).imp (fun _ q => vk_R.warm hW q), (zX_str_RX1_77 h).imp (fun _ q => vk_R.warm hW q), (zX_str_RX1_82 h).imp (fun _ q => vk_R.warm hW q), (zX_str_RX1_91 h).imp (fun _ q => vk_R.warm hW q), (zX_str_RX1_100 h).imp (fun _ q => vk_R.warm hW q), (zX_str_RX1_106 h).imp (fun _ q => vk_R.warm hW q), (zX_str_RX1_112 h).imp (fun _ q => vk_R.warm hW q), (zX_str_RX1_121 h).imp (fun _ q => vk_R.warm hW q), (zX_str_RX1_123 h).imp (fun _ q => vk_R.warm hW q), (zX_str_RX1_128 h).imp (fun _ q => vk_R.warm hW q), (zX_str_RX1_134 h).imp (fun _ q => vk_R.warm hW q), (zX_str_RX1_139 h).imp (fun _ q => vk_R.warm hW q), (zX_str_RX1_144 h).imp (fun _ q => vk_R.warm hW q), (zX_str_RX1_158 h).imp (fun _ q => vk_R.warm hW q), (zX_str_RX1_170 h).imp (fun _ q => vk_R.warm hW q), (zX_str_RX1_172 h).imp (fun _ q => vk_R.warm hW q), (zX_str_RX1_180 h).imp (fun _ q => vk_R.warm hW q), (zX_str_RX1_192 h).imp (fun _ q => vk_R.warm hW q)⟩
theorem zX.calling {U : State} {g : JFrame} {mk : MethodId} {a : Array Value} (h : zX U) : zX (U.calling g mk a) := zX.warm (State.WarmedH.refl U) h
def zTh (A : Nat → Prop) (U : State) (H : Heap) : Prop := vx_Zq Bundle.tN "UNASSIGNED_STACK" Bundle.steD A U H ∧ vx_Zq Bundle.tN "SUPPRESSED_SENTINEL" Bundle.listD A U H
theorem zTh.calling {A : Nat → Prop} {U : State} {g : JFrame} {mk : MethodId} {a : Array Value} (h : zTh A U U.heap) : zTh A (U.calling g mk a) (U.calling g mk a).heap := ⟨vx_Zq.moved (Vm.Alike.refl U.vm) h.1, vx_Zq.moved (Vm.Alike.refl U.vm) h.2⟩
theorem zTh.at {A B : Nat → Prop} {s U : State} {H : Heap} {locs : List Loc} (hW : s.WarmedH U.vm) (h : zTh A s s.heap) (hS : va_S A s.heap H locs) (hf : ∀ q, B q → A q) : zTh B U H := ⟨vx_Zq.moved hW.alike ((h.1.kept hS.2.1).narrow hf), vx_Zq.moved hW.alike ((h.2.kept hS.2.1).narrow hf)⟩
theorem zAt_X1_40 : ∀ w ∈ (vx_atS RX1 40 "java/lang/IllegalArgumentException" ["java/lang/RuntimeException", "java/lang/Exception"]).filter (fun w => !goodWord w), w ∈ [Cond.castable "java/lang/IllegalArgumentException" "java/lang/IllegalArgumentException", .declares (Bundle.initS "java/lang/RuntimeException"), .declares (Bundle.initS "java/lang/Exception"), .declares (Bundle.initS Bundle.tN)] := by decide +kernel
theorem zGa_X1_40 : ∀ w ∈ vx_atS RX1 40 "java/lang/IllegalArgumentException" ["java/lang/RuntimeException", "java/lang/Exception"], vx_ot w = true := by decide +kernel
theorem zGo_X1_40 (k : Nat) : ∀ w ∈ Cond.classLink RX1 k "java/lang/IllegalArgumentException" :: Cond.initialized "java/lang/IllegalArgumentException" :: vx_atS RX1 40 "java/lang/IllegalArgumentException" ["java/lang/RuntimeException", "java/lang/Exception"], vx_ot w = true := fun w h => (List.mem_cons.mp h).elim (fun e => by rw [e]; rfl) (fun h => (List.mem_cons.mp h).elim (fun e => by rw [e]; rfl) (fun h => zGa_X1_40 w h))
theorem zAt_X1_51 : ∀ w ∈ (vx_atS RX1 51 "java/lang/IllegalStateException" ["java/lang/RuntimeException", "java/lang/Exception"]).filter (fun w => !goodWord w), w ∈ [Cond.castable "java/lang/IllegalStateException" "java/lang/IllegalStateException", .declares (Bundle.initS "java/lang/RuntimeException"), .declares (Bundle.initS "java/lang/Exception"), .declares (Bundle.initS Bundle.tN)] := by decide +kernel
theorem zGa_X1_51 : ∀ w ∈ vx_atS RX1 51 "java/lang/IllegalStateException" ["java/lang/RuntimeException", "java/lang/Exception"], vx_ot w = true := by decide +kernel
theorem zGo_X1_51 (k : Nat) : ∀ w ∈ Cond.classLink RX1 k "java/lang/IllegalStateException" :: Cond.initialized "java/lang/IllegalStateException" :: vx_atS RX1 51 "java/lang/IllegalStateException" ["java/lang/RuntimeException", "java/lang/Exception"], vx_ot w = true := fun w h => (List.mem_cons.mp h).elim (fun e => by rw [e]; rfl) (fun h => (List.mem_cons.mp h).elim (fun e => by rw [e]; rfl) (fun h => zGa_X1_51 w h))
theorem zAt_X1_60 : ∀ w ∈ (vx_atS RX1 60 "java/lang/IndexOutOfBoundsException" ["java/lang/RuntimeException", "java/lang/Exception"]).filter (fun w => !goodWord w), w ∈ [Cond.castable "java/lang/IndexOutOfBoundsException" "java/lang/IndexOutOfBoundsException", .declares (Bundle.initS "java/lang/RuntimeException"), .declares (Bundle.initS "java/lang/Exception"), .declares (Bundle.initS Bundle.tN)] := by decide +kernel
theorem zGa_X1_60 : ∀ w ∈ vx_atS RX1 60 "java/lang/IndexOutOfBoundsException" ["java/lang/RuntimeException", "java/lang/Exception"], vx_ot w = true := by decide +kernel
theorem zGo_X1_60 (k : Nat) : ∀ w ∈ Cond.classLink RX1 k "java/lang/IndexOutOfBoundsException" :: Cond.initialized "java/lang/IndexOutOfBoundsException" :: vx_atS RX1 60 "java/lang/IndexOutOfBoundsException" ["java/lang/RuntimeException", "java/lang/Exception"], vx_ot w = true := fun w h => (List.mem_cons.mp h).elim (fun e => by rw [e]; rfl) (fun h => (List.mem_cons.mp h).elim (fun e => by rw [e]; rfl) (fun h => zGa_X1_60 w h))
def zNs (U : State) : Prop := va_Nw (.fieldLinkNest RX3 118 "ThatchRoofModel$State" "torn" "[I" "ThatchRoofModel") U ∧ va_Nw (.fieldLinkNest RX3 121 "ThatchRoofModel$State" "worn" "[I" "ThatchRoofModel") U ∧ va_Nw (.fieldLinkNest RX3 128 "ThatchRoofModel$State" "month" "I" "ThatchRoofModel") U ∧ va_Nw (.fieldLinkNest RX3 63 "ThatchRoofModel$State" "ridge" "[I" "ThatchRoofModel") U ∧ va_Nw (.fieldLinkNest RX3 86 "ThatchRoofModel$State" "kind" "[I" "ThatchRoofModel") U ∧ va_Nw (.fieldLinkNest RX3 93 "ThatchRoofModel$State" "thick" "[I" "ThatchRoofModel") U ∧ va_Nw (.fieldLinkNest RX3 96 "ThatchRoofModel$State" "spars" "[I" "ThatchRoofModel") U ∧ va_Nw (.fieldLinkNest RX3 99 "ThatchRoofModel$State" "moss" "[I" "ThatchRoofModel") U ∧ va_Nw (.fieldLinkNest RX2 63 "ThatchRoofModel" "courses" "[I" "ThatchRoofModel") U ∧ va_Nw (.fieldLinkNest RX2 75 "ThatchRoofModel" "slope" "[I" "ThatchRoofModel") U ∧ va_Nw (.fieldLinkNest RX2 78 "ThatchRoofModel" "width" "[I" "ThatchRoofModel") U ∧ va_Nw (.fieldLinkNest RX2 85 "ThatchRoofModel" "rain" "[I" "ThatchRoofModel") U ∧ va_Nw (.fieldLinkNest RX2 88 "ThatchRoofModel" "storm" "[I" "ThatchRoofModel") U ∧ va_Nw (.methodLinkNest RX2 55 yX3_cell "ThatchRoofModel") U
theorem zN_RX3_118 {U : State} (h : zNs U) : va_Nw (.fieldLinkNest RX3 118 "ThatchRoofModel$State" "torn" "[I" "ThatchRoofModel") U := h.1
theorem zN_RX3_121 {U : State} (h : zNs U) : va_Nw (.fieldLinkNest RX3 121 "ThatchRoofModel$State" "worn" "[I" "ThatchRoofModel") U := h.2.1
theorem zN_RX3_128 {U : State} (h : zNs U) : va_Nw (.fieldLinkNest RX3 128 "ThatchRoofModel$State" "month" "I" "ThatchRoofModel") U := h.2.2.1
theorem zN_RX3_63 {U : State} (h : zNs U) : va_Nw (.fieldLinkNest RX3 63 "ThatchRoofModel$State" "ridge" "[I" "ThatchRoofModel") U := h.2.2.2.1
theorem zN_RX3_86 {U : State} (h : zNs U) : va_Nw (.fieldLinkNest RX3 86 "ThatchRoofModel$State" "kind" "[I" "ThatchRoofModel") U := h.2.2.2.2.1
theorem zN_RX3_93 {U : State} (h : zNs U) : va_Nw (.fieldLinkNest RX3 93 "ThatchRoofModel$State" "thick" "[I" "ThatchRoofModel") U := h.2.2.2.2.2.1
theorem zN_RX3_96 {U : State} (h : zNs U) : va_Nw (.fieldLinkNest RX3 96 "ThatchRoofModel$State" "spars" "[I" "ThatchRoofModel") U := h.2.2.2.2.2.2.1
theorem zN_RX3_99 {U : State} (h : zNs U) : va_Nw (.fieldLinkNest RX3 99 "ThatchRoofModel$State" "moss" "[I" "ThatchRoofModel") U := h.2.2.2.2.2.2.2.1
theorem zN_RX2_63 {U : State} (h : zNs U) : va_Nw (.fieldLinkNest RX2 63 "ThatchRoofModel" "courses" "[I" "ThatchRoofModel") U := h.2.2.2.2.2.2.2.2.1
theorem zN_RX2_75 {U : State} (h : zNs U) : va_Nw (.fieldLinkNest RX2 75 "ThatchRoofModel" "slope" "[I" "ThatchRoofModel") U := h.2.2.2.2.2.2.2.2.2.1
theorem zN_RX2_78 {U : State} (h : zNs U) : va_Nw (.fieldLinkNest RX2 78 "ThatchRoofModel" "width" "[I" "ThatchRoofModel") U := h.2.2.2.2.2.2.2.2.2.2.1
theorem zN_RX2_85 {U : State} (h : zNs U) : va_Nw (.fieldLinkNest RX2 85 "ThatchRoofModel" "rain" "[I" "ThatchRoofModel") U := h.2.2.2.2.2.2.2.2.2.2.2.1
theorem zN_RX2_88 {U : State} (h : zNs U) : va_Nw (.fieldLinkNest RX2 88 "ThatchRoofModel" "storm" "[I" "ThatchRoofModel") U := h.2.2.2.2.2.2.2.2.2.2.2.2.1
theorem zN_RX2_55 {U : State} (h : zNs U) : va_Nw (.methodLinkNest RX2 55 yX3_cell "ThatchRoofModel") U := h.2.2.2.2.2.2.2.2.2.2.2.2.2
theorem zNs.warm {s U : State} (hW : s.WarmedH U.vm) (h : zNs s) : zNs U := ⟨va_Nw.warmF hW (zN_RX3_118 h), va_Nw.warmF hW (zN_RX3_121 h), va_Nw.warmF hW (zN_RX3_128 h), va_Nw.warmF hW (zN_RX3_63 h), va_Nw.warmF hW (zN_RX3_86 h), va_Nw.warmF hW (zN_RX3_93 h), va_Nw.warmF hW (zN_RX3_96 h), va_Nw.warmF hW (zN_RX3_99 h), va_Nw.warmF hW (zN_RX2_63 h), va_Nw.warmF hW (zN_RX2_75 h), va_Nw.warmF hW (zN_RX2_78 h), va_Nw.warmF hW (zN_RX2_85 h), va_Nw.warmF hW (zN_RX2_88 h), va_Nw.warmM hW (zN_RX2_55 h)⟩
theorem zNs.calling {U : State} {g : JFrame} {mk : MethodId} {a : Array Value} (h : zNs U) : zNs (U.calling g mk a) := zNs.warm (State.WarmedH.refl U) h
end
section
set_option maxHeartbeats 4000000 in
set_option maxRecDepth 100000 in
theorem k1_isWithin (l : Launch) (dC : Nat → ClassId) (dI : Nat → Nat → Nat) (x : Int32) (lo : Int32) (hi : Int32) : Met l yX1_isWithin wsX1_isWithin ({ frames := 0, cells := 0, slots := 0, locals := 0 }) (va_Pc [.int x, .int lo, .int hi] (fun _ => True)) (vp_Si (fun r : Int32 => (r = 1 ∧ zIn x lo hi) ∨ (r = 0 ∧ ¬ zIn x lo hi))) 0 0 (fun _ => False) := by
  refine Met.ofW (cc := cX1_isWithin) (maxL := 3) (ret := (some .boolean)) (by decide) rfl ?_
  intro p e s m args below meth c s₁ B hml hv
  obtain ⟨rfl, -⟩ := hv
  have hx := B.exec
  have hb := B.bytes
  have hr := B.returns
  have hts := atoms_spec (ws := wsX1_isWithin) B.pre
  have hown : s.vm.findClass RX1 = some m.cls := findClass_of_methodNamed B.named
  have hlocks := B.notSynchronized
  have hl := lv_entry ([.int x, .int lo, .int hi]) (n := 3) (Nat.le_of_ble_eq_true rfl)
  rw [lg_entry_eq]
  generalize (lg_sl ([.int x, .int lo, .int hi]) ++ List.replicate (3 - (lg_sl ([.int x, .int lo, .int hi])).length) Slot.unset).toArray = ls at hl ⊢
  have hl : lv_has ls 3 [(0, .int x), (1, .int lo), (2, .int hi)] := hl
  refine lv_iload_n hx hb dX1_isWithin_0 rfl (lv_at hl 0 rfl) ?_
  refine lv_iload_n hx hb dX1_isWithin_1 rfl (lv_at hl 1 rfl) ?_
  refine lv_icmp_lt (tgt := 14) hx hb dX1_isWithin_2 (by decide) (fun c1 => ?_) (fun c1 => ?_)
  · refine lv_iconst (v := 0) hx hb dX1_isWithin_14 (by decide) ?_
    exact W.zret (v := 0) hx hb hr (by decide) (fun t ht hW => ⟨0, rfl, by first | (refine Or.inl ?_; (refine ⟨?_, ?_⟩ <;> (first | rfl | (unfold zIn; grind))); done) | (refine Or.inr ?_; (refine ⟨?_, ?_⟩ <;> (first | rfl | (unfold zIn; grind))); done), ht⟩) (fun _ h => nomatch h) dX1_isWithin_15
  · refine lv_iload_n hx hb dX1_isWithin_5 rfl (lv_at hl 0 rfl) ?_
    refine lv_iload_n hx hb dX1_isWithin_6 rfl (lv_at hl 2 rfl) ?_
    refine lv_icmp_gt (tgt := 14) hx hb dX1_isWithin_7 (by decide) (fun c2 => ?_) (fun c2 => ?_)
    · refine lv_iconst (v := 0) hx hb dX1_isWithin_14 (by decide) ?_
      exact W.zret (v := 0) hx hb hr (by decide) (fun t ht hW => ⟨0, rfl, by first | (refine Or.inl ?_; (refine ⟨?_, ?_⟩ <;> (first | rfl | (unfold zIn; grind))); done) | (refine Or.inr ?_; (refine ⟨?_, ?_⟩ <;> (first | rfl | (unfold zIn; grind))); done), ht⟩) (fun _ h => nomatch h) dX1_isWithin_15
    · refine lv_iconst (v := 1) hx hb dX1_isWithin_10 (by decide) ?_
      refine lv_goto (tgt := 15) hx hb dX1_isWithin_11 (by decide) ?_
      exact W.zret (v := 1) hx hb hr (by decide) (fun t ht hW => ⟨1, rfl, by first | (refine Or.inl ?_; (refine ⟨?_, ?_⟩ <;> (first | rfl | (unfold zIn; grind))); done) | (refine Or.inr ?_; (refine ⟨?_, ?_⟩ <;> (first | rfl | (unfold zIn; grind))); done), ht⟩) (fun _ h => nomatch h) dX1_isWithin_15

set_option maxHeartbeats 4000000 in
set_option maxRecDepth 100000 in
theorem k1_isKind (l : Launch) (dC : Nat → ClassId) (dI : Nat → Nat → Nat) (x : Int32) : Met l yX1_isKind wsX1_isKind ({ frames := 1, cells := 0, slots := 0, locals := 22 }) (va_Pc [.int x] (fun _ => True)) (vp_Si (fun r : Int32 => (r = 1 ∧ zIn x 0 2) ∨ (r = 0 ∧ ¬ zIn x 0 2))) 0 0 (fun _ => False) := by
  refine Met.ofW (cc := cX1_isKind) (maxL := 1) (ret := (some .boolean)) (by decide) rfl ?_
  intro p e s m args below meth c s₁ B hml hv
  obtain ⟨rfl, -⟩ := hv
  have hx := B.exec
  have hb := B.bytes
  have hr := B.returns
  have hts := atoms_spec (ws := wsX1_isKind) B.pre
  have hown : s.vm.findClass RX1 = some m.cls := findClass_of_methodNamed B.named
  have hlocks := B.notSynchronized
  have hl := lv_entry ([.int x]) (n := 1) (Nat.le_of_ble_eq_true rfl)
  rw [lg_entry_eq]
  generalize (lg_sl ([.int x]) ++ List.replicate (1 - (lg_sl ([.int x])).length) Slot.unset).toArray = ls at hl ⊢
  have hl : lv_has ls 1 [(0, .int x)] := hl
  refine lv_iload_n hx hb dX1_isKind_0 rfl (lv_at hl 0 rfl) ?_
  refine lv_iconst (v := 0) hx hb dX1_isKind_1 (by decide) ?_
  refine lv_iconst (v := 2) hx hb dX1_isKind_2 (by decide) ?_
  refine vp_callSi (va_runS (As := [.int x, .int 0, .int 2]) (rest := []) ⟨hx, hb, hml, hown, hts⟩ (k1_isWithin l dC dI x 0 2 ) (va_cwS 3 hts gX1_isKind_X1_isWithin rfl rfl rfl (by decide +kernel) ⟨Nat.le_of_ble_eq_true rfl, Nat.le_of_ble_eq_true rfl⟩) ⟨fun a U g mk q => q, fun U hU hW => ⟨rfl, trivial⟩⟩ rfl rfl hl.1 rfl (lv_room (Nat.le_of_ble_eq_true rfl)) dX1_isKind_3 ⟨Nat.le_of_ble_eq_true rfl, Nat.le_of_ble_eq_true rfl⟩).run (fun r1 hr1 => ?_)
  rcases hr1 with ⟨rfl, fr1_0_0⟩ | ⟨rfl, fr1_1_0⟩
  · exact W.zret (v := 1) hx hb hr (by decide) (fun t ht hW => ⟨1, rfl, by first | (refine Or.inl ?_; (refine ⟨?_, ?_⟩ <;> (first | rfl | assumption | decide | (simp_all; done) | grind)); done) | (refine Or.inr ?_; (refine ⟨?_, ?_⟩ <;> (first | rfl | assumption | decide | (simp_all; done) | grind)); done), ht⟩) (fun _ h => nomatch h) dX1_isKind_6
  · exact W.zret (v := 0) hx hb hr (by decide) (fun t ht hW => ⟨0, rfl, by first | (refine Or.inl ?_; (refine ⟨?_, ?_⟩ <;> (first | rfl | assumption | decide | (simp_all; done) | grind)); done) | (refine Or.inr ?_; (refine ⟨?_, ?_⟩ <;> (first | rfl | assumption | decide | (simp_all; done) | grind)); done), ht⟩) (fun _ h => nomatch h) dX1_isKind_6

set_option maxHeartbeats 4000000 in
set_option maxRecDepth 100000 in
theorem k1_isYealm (l : Launch) (dC : Nat → ClassId) (dI : Nat → Nat → Nat) (x : Int32) (y : Int32) : Met l yX1_isYealm wsX1_isYealm ({ frames := 1, cells := 0, slots := 0, locals := 22 }) (va_Pc [.int x, .int y] (fun _ => True)) (vp_Si (fun r : Int32 => (r = 1 ∧ (zIn x 1 40 ∧ zIn y 0 9)) ∨ (r = 0 ∧ (¬ (zIn x 1 40 ∧ zIn y 0 9))))) 0 0 (fun _ => False) := by
  refine Met.ofW (cc := cX1_isYealm) (maxL := 2) (ret := (some .boolean)) (by decide) rfl ?_
  intro p e s m args below meth c s₁ B hml hv
  obtain ⟨rfl, -⟩ := hv
  have hx := B.exec
  have hb := B.bytes
  have hr := B.returns
  have hts := atoms_spec (ws := wsX1_isYealm) B.pre
  have hown : s.vm.findClass RX1 = some m.cls := findClass_of_methodNamed B.named
  have hlocks := B.notSynchronized
  have hl := lv_entry ([.int x, .int y]) (n := 2) (Nat.le_of_ble_eq_true rfl)
  rw [lg_entry_eq]
  generalize (lg_sl ([.int x, .int y]) ++ List.replicate (2 - (lg_sl ([.int x, .int y])).length) Slot.unset).toArray = ls at hl ⊢
  have hl : lv_has ls 2 [(0, .int x), (1, .int y)] := hl
  refine lv_iload_n hx hb dX1_isYealm_0 rfl (lv_at hl 0 rfl) ?_
  refine lv_iconst (v := 1) hx hb dX1_isYealm_1 (by decide) ?_
  refine lv_bipush (v := 40) hx hb dX1_isYealm_2 (by decide) ?_
  refine vp_callSi (va_runS (As := [.int x, .int 1, .int 40]) (rest := []) ⟨hx, hb, hml, hown, hts⟩ (k1_isWithin l dC dI x 1 40 ) (va_cwS 3 hts gX1_isYealm_X1_isWithin rfl rfl rfl (by decide +kernel) ⟨Nat.le_of_ble_eq_true rfl, Nat.le_of_ble_eq_true rfl⟩) ⟨fun a U g mk q => q, fun U hU hW => ⟨rfl, trivial⟩⟩ rfl rfl hl.1 rfl (lv_room (Nat.le_of_ble_eq_true rfl)) dX1_isYealm_4 ⟨Nat.le_of_ble_eq_true rfl, Nat.le_of_ble_eq_true rfl⟩).run (fun r1 hr1 => ?_)
  rcases hr1 with ⟨rfl, fr1_0_0⟩ | ⟨rfl, fr1_1_0⟩
  · refine lv_if_eq (tgt := 24) hx hb dX1_isYealm_7 (by decide) (fun c2 => absurd c2 (by decide)) (fun c2 => ?_)
    refine lv_iload_n hx hb dX1_isYealm_10 rfl (lv_at hl 1 rfl) ?_
    refine lv_iconst (v := 0) hx hb dX1_isYealm_11 (by decide) ?_
    refine lv_bipush (v := 9) hx hb dX1_isYealm_12 (by decide) ?_
    refine vp_callSi (va_runS (As := [.int y, .int 0, .int 9]) (rest := []) ⟨hx, hb, hml, hown, hts⟩ (k1_isWithin l dC dI y 0 9 ) (va_cwS 3 hts gX1_isYealm_X1_isWithin rfl rfl rfl (by decide +kernel) ⟨Nat.le_of_ble_eq_true rfl, Nat.le_of_ble_eq_true rfl⟩) ⟨fun a U g mk q => q, fun U hU hW => ⟨rfl, trivial⟩⟩ rfl rfl hl.1 rfl (lv_room (Nat.le_of_ble_eq_true rfl)) dX1_isYealm_14 ⟨Nat.le_of_ble_eq_true rfl, Nat.le_of_ble_eq_true rfl⟩).run (fun r3 hr3 => ?_)
    rcases hr3 with ⟨rfl, fr3_0_0⟩ | ⟨rfl, fr3_1_0⟩
    · refine lv_if_eq (tgt := 24) hx hb dX1_isYealm_17 (by decide) (fun c4 => absurd c4 (by decide)) (fun c4 => ?_)
      refine lv_iconst (v := 1) hx hb dX1_isYealm_20 (by decide) ?_
      refine lv_goto (tgt := 25) hx hb dX1_isYealm_21 (by decide) ?_
      exact W.zret (v := 1) hx hb hr (by decide) (fun t ht hW => ⟨1, rfl, by first | (refine Or.inl ?_; (refine ⟨?_, ?_⟩ <;> (first | rfl | assumption | decide | (simp_all; done) | grind)); done) | (refine Or.inr ?_; (refine ⟨?_, ?_⟩ <;> (first | rfl | assumption | decide | (simp_all; done) | grind)); done), ht⟩) (fun _ h => nomatch h) dX1_isYealm_25
    · refine lv_if_eq (tgt := 24) hx hb dX1_isYealm_17 (by decide) (fun c5 => ?_) (fun c5 => absurd c5 (by decide))
      refine lv_iconst (v := 0) hx hb dX1_isYealm_24 (by decide) ?_
      exact W.zret (v := 0) hx hb hr (by decide) (fun t ht hW => ⟨0, rfl, by first | (refine Or.inl ?_; (refine ⟨?_, ?_⟩ <;> (first | rfl | assumption | decide | (simp_all; done) | grind)); done) | (refine Or.inr ?_; (refine ⟨?_, ?_⟩ <;> (first | rfl | assumption | decide | (simp_all; done) | grind)); done), ht⟩) (fun _ h => nomatch h) dX1_isYealm_25
  · refine lv_if_eq (tgt := 24) hx hb dX1_isYealm_7 (by decide) (fun c6 => ?_) (fun c6 => absurd c6 (by decide))
    refine lv_iconst (v := 0) hx hb dX1_isYealm_24 (by decide) ?_
    exact W.zret (v := 0) hx hb hr (by decide) (fun t ht hW => ⟨0, rfl, by first | (refine Or.inl ?_; (refine ⟨?_, ?_⟩ <;> (first | rfl | assumption | decide | (simp_all; done) | grind)); done) | (refine Or.inr ?_; (refine ⟨?_, ?_⟩ <;> (first | rfl | assumption | decide | (simp_all; done) | grind)); done), ht⟩) (fun _ h => nomatch h) dX1_isYealm_25

set_option maxHeartbeats 4000000 in
set_option maxRecDepth 100000 in
theorem k0_init (l : Launch) (dC : Nat → ClassId) (dI : Nat → Nat → Nat) (sz : Nat) (h : Nat) (wi : Int32) (co : Int32) (sl : Int32) : Met l yX0_init wsX0_init ({ frames := 1, cells := 4, slots := 240, locals := 12 }) (va_Pc [.ref h, .int wi, .int co, .int sl] (fun U => U.heap.size = sz ∧ va_P (dC, dI) vwCl [(h, .inr (0, [.int 0, .int 0, .int 0, .int 0, .int 0, .int 0, .null, .null, .null, .null]))] U.heap ∧ va_K (dC, dI) vwCl [] U ∧ va_D (fun _ => True) [(h, .inr (0, [.int 0, .int 0, .int 0, .int 0, .int 0, .int 0, .null, .null, .null, .null]))])) (va_Qv (fun (u : Nat × Nat × Nat × Nat × ClassId × ClassId × ClassId × ClassId) => True) (fun (u : Nat × Nat × Nat × Nat × ClassId × ClassId × ClassId × ClassId) (t : State) => va_P (dC, dI) vwCl [(h, .inr (0, [.int wi, .int co, .int sl, .int 100, .int 0, .int 0, .ref u.1, .ref u.2.1, .ref u.2.2.1, .ref u.2.2.2.1])), (u.1, .inl (u.2.2.2.2.1, 60, .inl (fun _ => 0))), (u.2.1, .inl (u.2.2.2.2.2.1, 60, .inl (fun _ => 0))), (u.2.2.1, .inl (u.2.2.2.2.2.2.1, 60, .inl (fun _ => 0))), (u.2.2.2.1, .inl (u.2.2.2.2.2.2.2, 60, .inl (fun _ => 0)))] t.heap ∧ va_K (dC, dI) vwCl [(u.2.2.2.2.1, .int), (u.2.2.2.2.2.1, .int), (u.2.2.2.2.2.2.1, .int), (u.2.2.2.2.2.2.2, .int)] t ∧ va_D (va_A [(h, .inr (0, [.int 0, .int 0, .int 0, .int 0, .int 0, .int 0, .null, .null, .null, .null]))] sz) [(h, .inr (0, [.int wi, .int co, .int sl, .int 100, .int 0, .int 0, .ref u.1, .ref u.2.1, .ref u.2.2.1, .ref u.2.2.2.1])), (u.1, .inl (u.2.2.2.2.1, 60, .inl (fun _ => 0))), (u.2.1, .inl (u.2.2.2.2.2.1, 60, .inl (fun _ => 0))), (u.2.2.1, .inl (u.2.2.2.2.2.2.1, 60, .inl (fun _ => 0))), (u.2.2.2.1, .inl (u.2.2.2.2.2.2.2, 60, .inl (fun _ => 0)))]) (va_A [(h, .inr (0, [.int 0, .int 0, .int 0, .int 0, .int 0, .int 0, .null, .null, .null, .null]))] sz)) 4 240 (va_A [(h, .inr (0, [.int 0, .int 0, .int 0, .int 0, .int 0, .int 0, .null, .null, .null, .null]))] sz) := by
  refine Met.ofW (cc := cX0_init) (maxL := 4) (ret := none) (by decide) rfl ?_
  intro p e s m args below meth c s₁ B hml hv
  obtain ⟨rfl, hsz, hP, hK, hD0⟩ := hv
  have hx := B.exec
  have hb := B.bytes
  have hr := B.returns
  have hts := atoms_spec (ws := wsX0_init) B.pre
  have hown : s.vm.findClass RX0 = some m.cls := findClass_of_methodNamed B.named
  have hlocks := B.notSynchronized
  have hin : meth.name = "<init>" := (name_of_methodNamed B.named B.method).1
  subst hsz
  have hD := hD0.self (sz := s.heap.size)
  generalize hAe : va_A [(h, .inr (0, [.int 0, .int 0, .int 0, .int 0, .int 0, .int 0, .null, .null, .null, .null]))] s.heap.size = A at hD ⊢
  have hA : ∀ q : Nat, s.heap.size ≤ q → A q := fun q h => by rw [← hAe]; exact Or.inr h
  have hS : va_S A s.heap s.heap [] := va_S.rf
  have hP : va_P (dC, dI) vwCl [(h, .inr (0, [.int 0, .int 0, .int 0, .int 0, .int 0, .int 0, .null, .null, .null, .null]))] s.heap := hP
  have hl := lv_entry ([.ref h, .int wi, .int co, .int sl]) (n := 4) (Nat.le_of_ble_eq_true rfl)
  rw [lg_entry_eq]
  generalize (lg_sl ([.ref h, .int wi, .int co, .int sl]) ++ List.replicate (4 - (lg_sl ([.ref h, .int wi, .int co, .int sl])).length) Slot.unset).toArray = ls at hl ⊢
  have hl : lv_has ls 4 [(0, .ref h), (1, .int wi), (2, .int co), (3, .int sl)] := hl
  refine lv_aload_n hx hb dX0_init_0 rfl (lv_at hl 0 rfl) ?_
  refine W.objInit hx hb hown (hts (.methodLink RX0 3 objectInit) (by decide +kernel)) (hts (.instanceMethod objectInit) (by decide +kernel)) (hts (.code objectInit ⟨#[0xb1]⟩ 1 none) (by decide +kernel)) rfl (by rw [hml]; exact hl.1) rfl dX0_init_1 (Nat.le_of_ble_eq_true rfl) (Nat.le_of_ble_eq_true rfl) ?_
  refine W.eq (g2 := F0 m 4 ls []) rfl ?_
  refine lv_aload_n hx hb dX0_init_4 rfl (lv_at hl 0 rfl) ?_
  refine lv_bipush (v := 60) hx hb dX0_init_5 (by decide) ?_
  refine va_newa (atype := .int) (ty := .int) (N' := 60) (a0 := (60, .inl (fun _ => 0))) hx hb (hts (.arrayClass .int) (by decide +kernel)) rfl hK hP hD hS hA (fun _ => rfl) (by decide) (by decide) (by decide) (Nat.le_of_ble_eq_true rfl) (Nat.le_of_ble_eq_true rfl) dX0_init_7 (fun q1 cA2 H hK hP hD hS => ?_)
  refine W.widen (k := 1) (n := 60) (Nat.le_of_ble_eq_true rfl) (Nat.le_of_ble_eq_true rfl) ?_
  have hK : va_K (dC, dI) vwCl [(cA2, .int)] s := hK
  have hP : va_P (dC, dI) vwCl [(h, .inr (0, [.int 0, .int 0, .int 0, .int 0, .int 0, .int 0, .null, .null, .null, .null])), (q1, .inl (cA2, 60, .inl (fun _ => 0)))] H := hP
  have hD : va_D A [(h, .inr (0, [.int 0, .int 0, .int 0, .int 0, .int 0, .int 0, .null, .null, .null, .null])), (q1, .inl (cA2, 60, .inl (fun _ => 0)))] := hD
  refine va_putF (D := (dC, dI)) (ci := 0) (v := .ref q1) (ty := .array .int) (C := RX0) (T := TX0) (N := 10) hx hb hts (by decide +kernel) tyX0 tyX0_ok nmX0 hown hK hP hD hS 0 rfl rfl 6 (by decide) (hts (.fieldLink RX0 9 "ThatchRoof$Roof" "kinds" "[I") (by decide +kernel)) (fun _ h9 => h9) rfl hin rfl (by decide +kernel) rfl rfl (Nat.le_of_ble_eq_true rfl) dX0_init_9 (fun H locs hP hD hS => ?_)
  have hP : va_P (dC, dI) vwCl [(h, .inr (0, [.int 0, .int 0, .int 0, .int 0, .int 0, .int 0, .ref q1, .null, .null, .null])), (q1, .inl (cA2, 60, .inl (fun _ => 0)))] H := hP
  have hD : va_D A [(h, .inr (0, [.int 0, .int 0, .int 0, .int 0, .int 0, .int 0, .ref q1, .null, .null, .null])), (q1, .inl (cA2, 60, .inl (fun _ => 0)))] := hD
  refine lv_aload_n hx hb dX0_init_12 rfl (lv_at hl 0 rfl) ?_
  refine lv_bipush (v := 60) hx hb dX0_init_13 (by decide) ?_
  refine va_newa (atype := .int) (ty := .int) (N' := 60) (a0 := (60, .inl (fun _ => 0))) hx hb (hts (.arrayClass .int) (by decide +kernel)) rfl hK hP hD hS hA (fun _ => rfl) (by decide) (by decide) (by decide) (Nat.le_of_ble_eq_true rfl) (Nat.le_of_ble_eq_true rfl) dX0_init_15 (fun q3 cA4 H hK hP hD hS => ?_)
  refine W.widen (k := 2) (n := 120) (Nat.le_of_ble_eq_true rfl) (Nat.le_of_ble_eq_true rfl) ?_
  have hK : va_K (dC, dI) vwCl [(cA2, .int), (cA4, .int)] s := hK
  have hP : va_P (dC, dI) vwCl [(h, .inr (0, [.int 0, .int 0, .int 0, .int 0, .int 0, .int 0, .ref q1, .null, .null, .null])), (q1, .inl (cA2, 60, .inl (fun _ => 0))), (q3, .inl (cA4, 60, .inl (fun _ => 0)))] H := hP
  have hD : va_D A [(h, .inr (0, [.int 0, .int 0, .int 0, .int 0, .int 0, .int 0, .ref q1, .null, .null, .null])), (q1, .inl (cA2, 60, .inl (fun _ => 0))), (q3, .inl (cA4, 60, .inl (fun _ => 0)))] := hD
  refine va_putF (D := (dC, dI)) (ci := 0) (v := .ref q3) (ty := .array .int) (C := RX0) (T := TX0) (N := 10) hx hb hts (by decide +kernel) tyX0 tyX0_ok nmX0 hown hK hP hD hS 0 rfl rfl 7 (by decide) (hts (.fieldLink RX0 15 "ThatchRoof$Roof" "thicknesses" "[I") (by decide +kernel)) (fun _ h9 => h9) rfl hin rfl (by decide +kernel) rfl rfl (Nat.le_of_ble_eq_true rfl) dX0_init_17 (fun H locs hP hD hS => ?_)
  have hP : va_P (dC, dI) vwCl [(h, .inr (0, [.int 0, .int 0, .int 0, .int 0, .int 0, .int 0, .ref q1, .ref q3, .null, .null])), (q1, .inl (cA2, 60, .inl (fun _ => 0))), (q3, .inl (cA4, 60, .inl (fun _ => 0)))] H := hP
  have hD : va_D A [(h, .inr (0, [.int 0, .int 0, .int 0, .int 0, .int 0, .int 0, .ref q1, .ref q3, .null, .null])), (q1, .inl (cA2, 60, .inl (fun _ => 0))), (q3, .inl (cA4, 60, .inl (fun _ => 0)))] := hD
  refine lv_aload_n hx hb dX0_init_20 rfl (lv_at hl 0 rfl) ?_
  refine lv_bipush (v := 60) hx hb dX0_init_21 (by decide) ?_
  refine va_newa (atype := .int) (ty := .int) (N' := 60) (a0 := (60, .inl (fun _ => 0))) hx hb (hts (.arrayClass .int) (by decide +kernel)) rfl hK hP hD hS hA (fun _ => rfl) (by decide) (by decide) (by decide) (Nat.le_of_ble_eq_true rfl) (Nat.le_of_ble_eq_true rfl) dX0_init_23 (fun q5 cA6 H hK hP hD hS => ?_)
  refine W.widen (k := 3) (n := 180) (Nat.le_of_ble_eq_true rfl) (Nat.le_of_ble_eq_true rfl) ?_
  have hK : va_K (dC, dI) vwCl [(cA2, .int), (cA4, .int), (cA6, .int)] s := hK
  have hP : va_P (dC, dI) vwCl [(h, .inr (0, [.int 0, .int 0, .int 0, .int 0, .int 0, .int 0, .ref q1, .ref q3, .null, .null])), (q1, .inl (cA2, 60, .inl (fun _ => 0))), (q3, .inl (cA4, 60, .inl (fun _ => 0))), (q5, .inl (cA6, 60, .inl (fun _ => 0)))] H := hP
  have hD : va_D A [(h, .inr (0, [.int 0, .int 0, .int 0, .int 0, .int 0, .int 0, .ref q1, .ref q3, .null, .null])), (q1, .inl (cA2, 60, .inl (fun _ => 0))), (q3, .inl (cA4, 60, .inl (fun _ => 0))), (q5, .inl (cA6, 60, .inl (fun _ => 0)))] := hD
  refine va_putF (D := (dC, dI)) (ci := 0) (v := .ref q5) (ty := .array .int) (C := RX0) (T := TX0) (N := 10) hx hb hts (by decide +kernel) tyX0 tyX0_ok nmX0 hown hK hP hD hS 0 rfl rfl 8 (by decide) (hts (.fieldLink RX0 18 "ThatchRoof$Roof" "spars" "[I") (by decide +kernel)) (fun _ h9 => h9) rfl hin rfl (by decide +kernel) rfl rfl (Nat.le_of_ble_eq_true rfl) dX0_init_25 (fun H locs hP hD hS => ?_)
  have hP : va_P (dC, dI) vwCl [(h, .inr (0, [.int 0, .int 0, .int 0, .int 0, .int 0, .int 0, .ref q1, .ref q3, .ref q5, .null])), (q1, .inl (cA2, 60, .inl (fun _ => 0))), (q3, .inl (cA4, 60, .inl (fun _ => 0))), (q5, .inl (cA6, 60, .inl (fun _ => 0)))] H := hP
  have hD : va_D A [(h, .inr (0, [.int 0, .int 0, .int 0, .int 0, .int 0, .int 0, .ref q1, .ref q3, .ref q5, .null])), (q1, .inl (cA2, 60, .inl (fun _ => 0))), (q3, .inl (cA4, 60, .inl (fun _ => 0))), (q5, .inl (cA6, 60, .inl (fun _ => 0)))] := hD
  refine lv_aload_n hx hb dX0_init_28 rfl (lv_at hl 0 rfl) ?_
  refine lv_bipush (v := 60) hx hb dX0_init_29 (by decide) ?_
  refine va_newa (atype := .int) (ty := .int) (N' := 60) (a0 := (60, .inl (fun _ => 0))) hx hb (hts (.arrayClass .int) (by decide +kernel)) rfl hK hP hD hS hA (fun _ => rfl) (by decide) (by decide) (by decide) (Nat.le_of_ble_eq_true rfl) (Nat.le_of_ble_eq_true rfl) dX0_init_31 (fun q7 cA8 H hK hP hD hS => ?_)
  refine W.widen (k := 4) (n := 240) (Nat.le_of_ble_eq_true rfl) (Nat.le_of_ble_eq_true rfl) ?_
  have hK : va_K (dC, dI) vwCl [(cA2, .int), (cA4, .int), (cA6, .int), (cA8, .int)] s := hK
  have hP : va_P (dC, dI) vwCl [(h, .inr (0, [.int 0, .int 0, .int 0, .int 0, .int 0, .int 0, .ref q1, .ref q3, .ref q5, .null])), (q1, .inl (cA2, 60, .inl (fun _ => 0))), (q3, .inl (cA4, 60, .inl (fun _ => 0))), (q5, .inl (cA6, 60, .inl (fun _ => 0))), (q7, .inl (cA8, 60, .inl (fun _ => 0)))] H := hP
  have hD : va_D A [(h, .inr (0, [.int 0, .int 0, .int 0, .int 0, .int 0, .int 0, .ref q1, .ref q3, .ref q5, .null])), (q1, .inl (cA2, 60, .inl (fun _ => 0))), (q3, .inl (cA4, 60, .inl (fun _ => 0))), (q5, .inl (cA6, 60, .inl (fun _ => 0))), (q7, .inl (cA8, 60, .inl (fun _ => 0)))] := hD
  refine va_putF (D := (dC, dI)) (ci := 0) (v := .ref q7) (ty := .array .int) (C := RX0) (T := TX0) (N := 10) hx hb hts (by decide +kernel) tyX0 tyX0_ok nmX0 hown hK hP hD hS 0 rfl rfl 9 (by decide) (hts (.fieldLink RX0 21 "ThatchRoof$Roof" "mosses" "[I") (by decide +kernel)) (fun _ h9 => h9) rfl hin rfl (by decide +kernel) rfl rfl (Nat.le_of_ble_eq_true rfl) dX0_init_33 (fun H locs hP hD hS => ?_)
  have hP : va_P (dC, dI) vwCl [(h, .inr (0, [.int 0, .int 0, .int 0, .int 0, .int 0, .int 0, .ref q1, .ref q3, .ref q5, .ref q7])), (q1, .inl (cA2, 60, .inl (fun _ => 0))), (q3, .inl (cA4, 60, .inl (fun _ => 0))), (q5, .inl (cA6, 60, .inl (fun _ => 0))), (q7, .inl (cA8, 60, .inl (fun _ => 0)))] H := hP
  have hD : va_D A [(h, .inr (0, [.int 0, .int 0, .int 0, .int 0, .int 0, .int 0, .ref q1, .ref q3, .ref q5, .ref q7])), (q1, .inl (cA2, 60, .inl (fun _ => 0))), (q3, .inl (cA4, 60, .inl (fun _ => 0))), (q5, .inl (cA6, 60, .inl (fun _ => 0))), (q7, .inl (cA8, 60, .inl (fun _ => 0)))] := hD
  refine lv_aload_n hx hb dX0_init_36 rfl (lv_at hl 0 rfl) ?_
  refine lv_iload_n hx hb dX0_init_37 rfl (lv_at hl 1 rfl) ?_
  refine va_put (D := (dC, dI)) (ci := 0) (v := .int wi) (ty := .int) (C := RX0) (T := TX0) (N := 10) hx hb hts (by decide +kernel) tyX0 tyX0_ok nmX0 hown hK hP hD hS 0 rfl rfl 0 (by decide) (hts (.fieldLink RX0 24 "ThatchRoof$Roof" "width" "I") (by decide +kernel)) (fun _ h9 => h9) rfl (by decide +kernel) rfl rfl (Nat.le_of_ble_eq_true rfl) dX0_init_38 (fun H locs hP hD hS => ?_)
  have hP : va_P (dC, dI) vwCl [(h, .inr (0, [.int wi, .int 0, .int 0, .int 0, .int 0, .int 0, .ref q1, .ref q3, .ref q5, .ref q7])), (q1, .inl (cA2, 60, .inl (fun _ => 0))), (q3, .inl (cA4, 60, .inl (fun _ => 0))), (q5, .inl (cA6, 60, .inl (fun _ => 0))), (q7, .inl (cA8, 60, .inl (fun _ => 0)))] H := hP
  have hD : va_D A [(h, .inr (0, [.int wi, .int 0, .int 0, .int 0, .int 0, .int 0, .ref q1, .ref q3, .ref q5, .ref q7])), (q1, .inl (cA2, 60, .inl (fun _ => 0))), (q3, .inl (cA4, 60, .inl (fun _ => 0))), (q5, .inl (cA6, 60, .inl (fun _ => 0))), (q7, .inl (cA8, 60, .inl (fun _ => 0)))] := hD
  refine lv_aload_n hx hb dX0_init_41 rfl (lv_at hl 0 rfl) ?_
  refine lv_iload_n hx hb dX0_init_42 rfl (lv_at hl 2 rfl) ?_
  refine va_put (D := (dC, dI)) (ci := 0) (v := .int co) (ty := .int) (C := RX0) (T := TX0) (N := 10) hx hb hts (by decide +kernel) tyX0 tyX0_ok nmX0 hown hK hP hD hS 0 rfl rfl 1 (by decide) (hts (.fieldLink RX0 28 "ThatchRoof$Roof" "courses" "I") (by decide +kernel)) (fun _ h9 => h9) rfl (by decide +kernel) rfl rfl (Nat.le_of_ble_eq_true rfl) dX0_init_43 (fun H locs hP hD hS => ?_)
  have hP : va_P (dC, dI) vwCl [(h, .inr (0, [.int wi, .int co, .int 0, .int 0, .int 0, .int 0, .ref q1, .ref q3, .ref q5, .ref q7])), (q1, .inl (cA2, 60, .inl (fun _ => 0))), (q3, .inl (cA4, 60, .inl (fun _ => 0))), (q5, .inl (cA6, 60, .inl (fun _ => 0))), (q7, .inl (cA8, 60, .inl (fun _ => 0)))] H := hP
  have hD : va_D A [(h, .inr (0, [.int wi, .int co, .int 0, .int 0, .int 0, .int 0, .ref q1, .ref q3, .ref q5, .ref q7])), (q1, .inl (cA2, 60, .inl (fun _ => 0))), (q3, .inl (cA4, 60, .inl (fun _ => 0))), (q5, .inl (cA6, 60, .inl (fun _ => 0))), (q7, .inl (cA8, 60, .inl (fun _ => 0)))] := hD
  refine lv_aload_n hx hb dX0_init_46 rfl (lv_at hl 0 rfl) ?_
  refine lv_iload_n hx hb dX0_init_47 rfl (lv_at hl 3 rfl) ?_
  refine va_put (D := (dC, dI)) (ci := 0) (v := .int sl) (ty := .int) (C := RX0) (T := TX0) (N := 10) hx hb hts (by decide +kernel) tyX0 tyX0_ok nmX0 hown hK hP hD hS 0 rfl rfl 2 (by decide) (hts (.fieldLink RX0 31 "ThatchRoof$Roof" "slope" "I") (by decide +kernel)) (fun _ h9 => h9) rfl (by decide +kernel) rfl rfl (Nat.le_of_ble_eq_true rfl) dX0_init_48 (fun H locs hP hD hS => ?_)
  have hP : va_P (dC, dI) vwCl [(h, .inr (0, [.int wi, .int co, .int sl, .int 0, .int 0, .int 0, .ref q1, .ref q3, .ref q5, .ref q7])), (q1, .inl (cA2, 60, .inl (fun _ => 0))), (q3, .inl (cA4, 60, .inl (fun _ => 0))), (q5, .inl (cA6, 60, .inl (fun _ => 0))), (q7, .inl (cA8, 60, .inl (fun _ => 0)))] H := hP
  have hD : va_D A [(h, .inr (0, [.int wi, .int co, .int sl, .int 0, .int 0, .int 0, .ref q1, .ref q3, .ref q5, .ref q7])), (q1, .inl (cA2, 60, .inl (fun _ => 0))), (q3, .inl (cA4, 60, .inl (fun _ => 0))), (q5, .inl (cA6, 60, .inl (fun _ => 0))), (q7, .inl (cA8, 60, .inl (fun _ => 0)))] := hD
  refine lv_aload_n hx hb dX0_init_51 rfl (lv_at hl 0 rfl) ?_
  refine lv_bipush (v := 100) hx hb dX0_init_52 (by decide) ?_
  refine va_put (D := (dC, dI)) (ci := 0) (v := .int 100) (ty := .int) (C := RX0) (T := TX0) (N := 10) hx hb hts (by decide +kernel) tyX0 tyX0_ok nmX0 hown hK hP hD hS 0 rfl rfl 3 (by decide) (hts (.fieldLink RX0 34 "ThatchRoof$Roof" "ridge" "I") (by decide +kernel)) (fun _ h9 => h9) rfl (by decide +kernel) rfl rfl (Nat.le_of_ble_eq_true rfl) dX0_init_54 (fun H locs hP hD hS => ?_)
  have hP : va_P (dC, dI) vwCl [(h, .inr (0, [.int wi, .int co, .int sl, .int 100, .int 0, .int 0, .ref q1, .ref q3, .ref q5, .ref q7])), (q1, .inl (cA2, 60, .inl (fun _ => 0))), (q3, .inl (cA4, 60, .inl (fun _ => 0))), (q5, .inl (cA6, 60, .inl (fun _ => 0))), (q7, .inl (cA8, 60, .inl (fun _ => 0)))] H := hP
  have hD : va_D A [(h, .inr (0, [.int wi, .int co, .int sl, .int 100, .int 0, .int 0, .ref q1, .ref q3, .ref q5, .ref q7])), (q1, .inl (cA2, 60, .inl (fun _ => 0))), (q3, .inl (cA4, 60, .inl (fun _ => 0))), (q5, .inl (cA6, 60, .inl (fun _ => 0))), (q7, .inl (cA8, 60, .inl (fun _ => 0)))] := hD
  have hP9 := hP.sub (ws' := [(h, .inr (0, [.int wi, .int co, .int sl, .int 100, .int 0, .int 0, .ref q1, .ref q3, .ref q5, .ref q7])), (q1, .inl (cA2, 60, .inl (fun _ => 0))), (q3, .inl (cA4, 60, .inl (fun _ => 0))), (q5, .inl (cA6, 60, .inl (fun _ => 0))), (q7, .inl (cA8, 60, .inl (fun _ => 0)))]) [0, 1, 2, 3, 4] rfl
  have hD9 := hD.sub (ws' := [(h, .inr (0, [.int wi, .int co, .int sl, .int 100, .int 0, .int 0, .ref q1, .ref q3, .ref q5, .ref q7])), (q1, .inl (cA2, 60, .inl (fun _ => 0))), (q3, .inl (cA4, 60, .inl (fun _ => 0))), (q5, .inl (cA6, 60, .inl (fun _ => 0))), (q7, .inl (cA8, 60, .inl (fun _ => 0)))]) [0, 1, 2, 3, 4] (by decide) rfl
  have hK9 := hK.sub (tys' := [(cA2, .int), (cA4, .int), (cA6, .int), (cA8, .int)]) [0, 1, 2, 3] rfl
  refine W.widen (k := 4) (n := 240) (Nat.le_of_ble_eq_true rfl) (Nat.le_of_ble_eq_true rfl) ?_
  exact W.vret hx hb hr (fun t ht hW => ⟨⟨(q1, q3, q5, q7, cA2, cA4, cA6, cA8), rfl, by exact trivial, ⟨by rw [ht]; exact hP9, va_K.moved hW.alike hK9, hD9⟩⟩, hS.F ht⟩) hS.2.2 dX0_init_57

set_option maxHeartbeats 4000000 in
set_option maxRecDepth 100000 in
theorem k1_init (l : Launch) (hst : l.stackTraces = false) (dC : Nat → ClassId) (dI : Nat → Nat → Nat) (sz : Nat) (h : Nat) : Met l yX1_init wsX1_init ({ frames := 2, cells := 9, slots := 283, locals := 35 }) (va_Pc [.ref h] (fun U => U.heap.size = sz ∧ va_P (dC, dI) vwCl [(h, .inr (1, [.null, .int 0, .null, .null, .null, .int 0, .null]))] U.heap ∧ va_K (dC, dI) vwCl [] U ∧ va_D (fun _ => True) [(h, .inr (1, [.null, .int 0, .null, .null, .null, .int 0, .null]))] ∧ zX U ∧ zTh (va_A [(h, .inr (1, [.null, .int 0, .null, .null, .null, .int 0, .null]))] sz) U U.heap)) (va_Qv (fun (u : Nat × Nat × Nat × Nat × Nat × ClassId × ClassId × ClassId × ClassId × (Nat → Int32)) => (∀ j : Nat, j < 12 → u.2.2.2.2.2.2.2.2.2 j = 4)) (fun (u : Nat × Nat × Nat × Nat × Nat × ClassId × ClassId × ClassId × ClassId × (Nat → Int32)) (t : State) => va_P (dC, dI) vwCl [(h, .inr (1, [.ref u.1, .int 0, .ref u.2.1, .ref u.2.2.1, .ref u.2.2.2.1, .int 0, .ref u.2.2.2.2.1])), (u.1, .inl (u.2.2.2.2.2.1, 6, .inr (.inr (.inr (.inr (fun _ => none)))))), (u.2.1, .inl (u.2.2.2.2.2.2.1, 3, .inl (fun _ => 0))), (u.2.2.1, .inl (u.2.2.2.2.2.2.2.1, 12, .inl u.2.2.2.2.2.2.2.2.2)), (u.2.2.2.1, .inl (u.2.2.2.2.2.2.2.2.1, 12, .inl (fun _ => 0)))] t.heap ∧ va_K (dC, dI) vwCl [(u.2.2.2.2.2.1, .object RX0), (u.2.2.2.2.2.2.1, .int), (u.2.2.2.2.2.2.2.1, .int), (u.2.2.2.2.2.2.2.2.1, .int)] t ∧ va_D (va_A [(h, .inr (1, [.null, .int 0, .null, .null, .null, .int 0, .null]))] sz) [(h, .inr (1, [.ref u.1, .int 0, .ref u.2.1, .ref u.2.2.1, .ref u.2.2.2.1, .int 0, .ref u.2.2.2.2.1])), (u.1, .inl (u.2.2.2.2.2.1, 6, .inr (.inr (.inr (.inr (fun _ => none)))))), (u.2.1, .inl (u.2.2.2.2.2.2.1, 3, .inl (fun _ => 0))), (u.2.2.1, .inl (u.2.2.2.2.2.2.2.1, 12, .inl u.2.2.2.2.2.2.2.2.2)), (u.2.2.2.1, .inl (u.2.2.2.2.2.2.2.2.1, 12, .inl (fun _ => 0)))]) (va_A [(h, .inr (1, [.null, .int 0, .null, .null, .null, .int 0, .null]))] sz)) 9 283 (va_A [(h, .inr (1, [.null, .int 0, .null, .null, .null, .int 0, .null]))] sz) := by
  refine Met.ofW (cc := cX1_init) (maxL := 2) (ret := none) (by decide) rfl ?_
  intro p e s m args below meth c s₁ B hml hv
  obtain ⟨rfl, hsz, hP, hK, hD0, hZX, hZT⟩ := hv
  have hx := B.exec
  have hb := B.bytes
  have hr := B.returns
  have hts := atoms_spec (ws := wsX1_init) B.pre
  have hown : s.vm.findClass RX1 = some m.cls := findClass_of_methodNamed B.named
  have hlocks := B.notSynchronized
  have hin : meth.name = "<init>" := (name_of_methodNamed B.named B.method).1
  subst hsz
  have hD := hD0.self (sz := s.heap.size)
  generalize hAe : va_A [(h, .inr (1, [.null, .int 0, .null, .null, .null, .int 0, .null]))] s.heap.size = A at hD hZT ⊢
  have hA : ∀ q : Nat, s.heap.size ≤ q → A q := fun q h => by rw [← hAe]; exact Or.inr h
  have hS : va_S A s.heap s.heap [] := va_S.rf
  have hP : va_P (dC, dI) vwCl [(h, .inr (1, [.null, .int 0, .null, .null, .null, .int 0, .null]))] s.heap := hP
  have hl := lv_entry ([.ref h]) (n := 2) (Nat.le_of_ble_eq_true rfl)
  rw [lg_entry_eq]
  generalize (lg_sl ([.ref h]) ++ List.replicate (2 - (lg_sl ([.ref h])).length) Slot.unset).toArray = ls at hl ⊢
  have hl : lv_has ls 2 [(0, .ref h)] := hl
  refine lv_aload_n hx hb dX1_init_0 rfl (lv_at hl 0 rfl) ?_
  refine W.objInit hx hb hown (hts (.methodLink RX1 3 objectInit) (by decide +kernel)) (hts (.instanceMethod objectInit) (by decide +kernel)) (hts (.code objectInit ⟨#[0xb1]⟩ 1 none) (by decide +kernel)) rfl (by rw [hml]; exact hl.1) rfl dX1_init_1 (Nat.le_of_ble_eq_true rfl) (Nat.le_of_ble_eq_true rfl) ?_
  refine W.eq (g2 := F0 m 4 ls []) rfl ?_
  refine lv_aload_n hx hb dX1_init_4 rfl (lv_at hl 0 rfl) ?_
  refine lv_bipush (v := 6) hx hb dX1_init_5 (by decide) ?_
  refine va_newq (C := RX0) (N' := 6) hx hb hown (hts (.classLink RX1 9 RX0) (by decide +kernel)) (zX_over hZX) hK hP hD hS hA (by decide) (by decide) (by decide) (Nat.le_of_ble_eq_true rfl) (Nat.le_of_ble_eq_true rfl) dX1_init_7 (fun q1 cA2 H hK hP hD hS => ?_)
  refine W.widen (k := 1) (n := 6) (Nat.le_of_ble_eq_true rfl) (Nat.le_of_ble_eq_true rfl) ?_
  have hK : va_K (dC, dI) vwCl [(cA2, .object RX0)] s := hK
  have hP : va_P (dC, dI) vwCl [(h, .inr (1, [.null, .int 0, .null, .null, .null, .int 0, .null])), (q1, .inl (cA2, 6, .inr (.inr (.inr (.inr (fun _ => none))))))] H := hP
  have hD : va_D A [(h, .inr (1, [.null, .int 0, .null, .null, .null, .int 0, .null])), (q1, .inl (cA2, 6, .inr (.inr (.inr (.inr (fun _ => none))))))] := hD
  refine va_putF (D := (dC, dI)) (ci := 1) (v := .ref q1) (ty := .array (.object "ThatchRoof$Roof")) (C := RX1) (T := TX1) (N := 7) hx hb hts (by decide +kernel) tyX1 tyX1_ok nmX1 hown hK hP hD hS 0 rfl rfl 0 (by decide) (hts (.fieldLink RX1 11 "ThatchRoof" "roofs" "[LThatchRoof$Roof;") (by decide +kernel)) (fun _ h9 => h9) rfl hin rfl (by decide +kernel) rfl rfl (Nat.le_of_ble_eq_true rfl) dX1_init_10 (fun H locs hP hD hS => ?_)
  have hP : va_P (dC, dI) vwCl [(h, .inr (1, [.ref q1, .int 0, .null, .null, .null, .int 0, .null])), (q1, .inl (cA2, 6, .inr (.inr (.inr (.inr (fun _ => none))))))] H := hP
  have hD : va_D A [(h, .inr (1, [.ref q1, .int 0, .null, .null, .null, .int 0, .null])), (q1, .inl (cA2, 6, .inr (.inr (.inr (.inr (fun _ => none))))))] := hD
  refine lv_aload_n hx hb dX1_init_13 rfl (lv_at hl 0 rfl) ?_
  refine lv_iconst (v := 3) hx hb dX1_init_14 (by decide) ?_
  refine va_newa (atype := .int) (ty := .int) (N' := 3) (a0 := (3, .inl (fun _ => 0))) hx hb (hts (.arrayClass .int) (by decide +kernel)) rfl hK hP hD hS hA (fun _ => rfl) (by decide) (by decide) (by decide) (Nat.le_of_ble_eq_true rfl) (Nat.le_of_ble_eq_true rfl) dX1_init_15 (fun q3 cA4 H hK hP hD hS => ?_)
  refine W.widen (k := 2) (n := 9) (Nat.le_of_ble_eq_true rfl) (Nat.le_of_ble_eq_true rfl) ?_
  have hK : va_K (dC, dI) vwCl [(cA2, .object RX0), (cA4, .int)] s := hK
  have hP : va_P (dC, dI) vwCl [(h, .inr (1, [.ref q1, .int 0, .null, .null, .null, .int 0, .null])), (q1, .inl (cA2, 6, .inr (.inr (.inr (.inr (fun _ => none)))))), (q3, .inl (cA4, 3, .inl (fun _ => 0)))] H := hP
  have hD : va_D A [(h, .inr (1, [.ref q1, .int 0, .null, .null, .null, .int 0, .null])), (q1, .inl (cA2, 6, .inr (.inr (.inr (.inr (fun _ => none)))))), (q3, .inl (cA4, 3, .inl (fun _ => 0)))] := hD
  refine va_putF (D := (dC, dI)) (ci := 1) (v := .ref q3) (ty := .array .int) (C := RX1) (T := TX1) (N := 7) hx hb hts (by decide +kernel) tyX1 tyX1_ok nmX1 hown hK hP hD hS 0 rfl rfl 2 (by decide) (hts (.fieldLink RX1 15 "ThatchRoof" "barn" "[I") (by decide +kernel)) (fun _ h9 => h9) rfl hin rfl (by decide +kernel) rfl rfl (Nat.le_of_ble_eq_true rfl) dX1_init_17 (fun H locs hP hD hS => ?_)
  have hP : va_P (dC, dI) vwCl [(h, .inr (1, [.ref q1, .int 0, .ref q3, .null, .null, .int 0, .null])), (q1, .inl (cA2, 6, .inr (.inr (.inr (.inr (fun _ => none)))))), (q3, .inl (cA4, 3, .inl (fun _ => 0)))] H := hP
  have hD : va_D A [(h, .inr (1, [.ref q1, .int 0, .ref q3, .null, .null, .int 0, .null])), (q1, .inl (cA2, 6, .inr (.inr (.inr (.inr (fun _ => none)))))), (q3, .inl (cA4, 3, .inl (fun _ => 0)))] := hD
  refine lv_aload_n hx hb dX1_init_20 rfl (lv_at hl 0 rfl) ?_
  refine lv_bipush (v := 12) hx hb dX1_init_21 (by decide) ?_
  refine va_newa (atype := .int) (ty := .int) (N' := 12) (a0 := (12, .inl (fun _ => 0))) hx hb (hts (.arrayClass .int) (by decide +kernel)) rfl hK hP hD hS hA (fun _ => rfl) (by decide) (by decide) (by decide) (Nat.le_of_ble_eq_true rfl) (Nat.le_of_ble_eq_true rfl) dX1_init_23 (fun q5 cA6 H hK hP hD hS => ?_)
  refine W.widen (k := 3) (n := 21) (Nat.le_of_ble_eq_true rfl) (Nat.le_of_ble_eq_true rfl) ?_
  have hK : va_K (dC, dI) vwCl [(cA2, .object RX0), (cA4, .int), (cA6, .int)] s := hK
  have hP : va_P (dC, dI) vwCl [(h, .inr (1, [.ref q1, .int 0, .ref q3, .null, .null, .int 0, .null])), (q1, .inl (cA2, 6, .inr (.inr (.inr (.inr (fun _ => none)))))), (q3, .inl (cA4, 3, .inl (fun _ => 0))), (q5, .inl (cA6, 12, .inl (fun _ => 0)))] H := hP
  have hD : va_D A [(h, .inr (1, [.ref q1, .int 0, .ref q3, .null, .null, .int 0, .null])), (q1, .inl (cA2, 6, .inr (.inr (.inr (.inr (fun _ => none)))))), (q3, .inl (cA4, 3, .inl (fun _ => 0))), (q5, .inl (cA6, 12, .inl (fun _ => 0)))] := hD
  refine va_putF (D := (dC, dI)) (ci := 1) (v := .ref q5) (ty := .array .int) (C := RX1) (T := TX1) (N := 7) hx hb hts (by decide +kernel) tyX1 tyX1_ok nmX1 hown hK hP hD hS 0 rfl rfl 3 (by decide) (hts (.fieldLink RX1 19 "ThatchRoof" "rains" "[I") (by decide +kernel)) (fun _ h9 => h9) rfl hin rfl (by decide +kernel) rfl rfl (Nat.le_of_ble_eq_true rfl) dX1_init_25 (fun H locs hP hD hS => ?_)
  have hP : va_P (dC, dI) vwCl [(h, .inr (1, [.ref q1, .int 0, .ref q3, .ref q5, .null, .int 0, .null])), (q1, .inl (cA2, 6, .inr (.inr (.inr (.inr (fun _ => none)))))), (q3, .inl (cA4, 3, .inl (fun _ => 0))), (q5, .inl (cA6, 12, .inl (fun _ => 0)))] H := hP
  have hD : va_D A [(h, .inr (1, [.ref q1, .int 0, .ref q3, .ref q5, .null, .int 0, .null])), (q1, .inl (cA2, 6, .inr (.inr (.inr (.inr (fun _ => none)))))), (q3, .inl (cA4, 3, .inl (fun _ => 0))), (q5, .inl (cA6, 12, .inl (fun _ => 0)))] := hD
  refine lv_aload_n hx hb dX1_init_28 rfl (lv_at hl 0 rfl) ?_
  refine lv_bipush (v := 12) hx hb dX1_init_29 (by decide) ?_
  refine va_newa (atype := .int) (ty := .int) (N' := 12) (a0 := (12, .inl (fun _ => 0))) hx hb (hts (.arrayClass .int) (by decide +kernel)) rfl hK hP hD hS hA (fun _ => rfl) (by decide) (by decide) (by decide) (Nat.le_of_ble_eq_true rfl) (Nat.le_of_ble_eq_true rfl) dX1_init_31 (fun q7 cA8 H hK hP hD hS => ?_)
  refine W.widen (k := 4) (n := 33) (Nat.le_of_ble_eq_true rfl) (Nat.le_of_ble_eq_true rfl) ?_
  have hK : va_K (dC, dI) vwCl [(cA2, .object RX0), (cA4, .int), (cA6, .int), (cA8, .int)] s := hK
  have hP : va_P (dC, dI) vwCl [(h, .inr (1, [.ref q1, .int 0, .ref q3, .ref q5, .null, .int 0, .null])), (q1, .inl (cA2, 6, .inr (.inr (.inr (.inr (fun _ => none)))))), (q3, .inl (cA4, 3, .inl (fun _ => 0))), (q5, .inl (cA6, 12, .inl (fun _ => 0))), (q7, .inl (cA8, 12, .inl (fun _ => 0)))] H := hP
  have hD : va_D A [(h, .inr (1, [.ref q1, .int 0, .ref q3, .ref q5, .null, .int 0, .null])), (q1, .inl (cA2, 6, .inr (.inr (.inr (.inr (fun _ => none)))))), (q3, .inl (cA4, 3, .inl (fun _ => 0))), (q5, .inl (cA6, 12, .inl (fun _ => 0))), (q7, .inl (cA8, 12, .inl (fun _ => 0)))] := hD
  refine va_putF (D := (dC, dI)) (ci := 1) (v := .ref q7) (ty := .array .int) (C := RX1) (T := TX1) (N := 7) hx hb hts (by decide +kernel) tyX1 tyX1_ok nmX1 hown hK hP hD hS 0 rfl rfl 4 (by decide) (hts (.fieldLink RX1 22 "ThatchRoof" "storms" "[I") (by decide +kernel)) (fun _ h9 => h9) rfl hin rfl (by decide +kernel) rfl rfl (Nat.le_of_ble_eq_true rfl) dX1_init_33 (fun H locs hP hD hS => ?_)
  have hP : va_P (dC, dI) vwCl [(h, .inr (1, [.ref q1, .int 0, .ref q3, .ref q5, .ref q7, .int 0, .null])), (q1, .inl (cA2, 6, .inr (.inr (.inr (.inr (fun _ => none)))))), (q3, .inl (cA4, 3, .inl (fun _ => 0))), (q5, .inl (cA6, 12, .inl (fun _ => 0))), (q7, .inl (cA8, 12, .inl (fun _ => 0)))] H := hP
  have hD : va_D A [(h, .inr (1, [.ref q1, .int 0, .ref q3, .ref q5, .ref q7, .int 0, .null])), (q1, .inl (cA2, 6, .inr (.inr (.inr (.inr (fun _ => none)))))), (q3, .inl (cA4, 3, .inl (fun _ => 0))), (q5, .inl (cA6, 12, .inl (fun _ => 0))), (q7, .inl (cA8, 12, .inl (fun _ => 0)))] := hD
  refine lv_aload_n hx hb dX1_init_36 rfl (lv_at hl 0 rfl) ?_
  refine va_new (ci := 0) (fs := [.int 0, .int 0, .int 0, .int 0, .int 0, .int 0, .null, .null, .null, .null]) (C := RX0) (T := TX0) (N := 10) hx hb hts (by decide +kernel) tyX0 tyX0_ok hown (hts (.classLink RX1 9 RX0) (by decide +kernel)) (hts (.instantiable RX0 10) (by decide +kernel)) (hts (.initialized RX0) (by decide +kernel)) hK hP hD hS hA rfl (fun j hj => by rcases (show j = 0 ∨ j = 1 ∨ j = 2 ∨ j = 3 ∨ j = 4 ∨ j = 5 ∨ j = 6 ∨ j = 7 ∨ j = 8 ∨ j = 9 by omega) with rfl | rfl | rfl | rfl | rfl | rfl | rfl | rfl | rfl | rfl <;> rfl) (Nat.le_of_ble_eq_true rfl) (Nat.le_of_ble_eq_true rfl) dX1_init_37 (fun q9 H hP hD hS => ?_)
  refine W.widen (k := 5) (n := 43) (Nat.le_of_ble_eq_true rfl) (Nat.le_of_ble_eq_true rfl) ?_
  have hP : va_P (dC, dI) vwCl [(h, .inr (1, [.ref q1, .int 0, .ref q3, .ref q5, .ref q7, .int 0, .null])), (q1, .inl (cA2, 6, .inr (.inr (.inr (.inr (fun _ => none)))))), (q3, .inl (cA4, 3, .inl (fun _ => 0))), (q5, .inl (cA6, 12, .inl (fun _ => 0))), (q7, .inl (cA8, 12, .inl (fun _ => 0))), (q9, .inr (0, [.int 0, .int 0, .int 0, .int 0, .int 0, .int 0, .null, .null, .null, .null]))] H := hP
  have hD : va_D A [(h, .inr (1, [.ref q1, .int 0, .ref q3, .ref q5, .ref q7, .int 0, .null])), (q1, .inl (cA2, 6, .inr (.inr (.inr (.inr (fun _ => none)))))), (q3, .inl (cA4, 3, .inl (fun _ => 0))), (q5, .inl (cA6, 12, .inl (fun _ => 0))), (q7, .inl (cA8, 12, .inl (fun _ => 0))), (q9, .inr (0, [.int 0, .int 0, .int 0, .int 0, .int 0, .int 0, .null, .null, .null, .null]))] := hD
  refine lv_dup hx hb dX1_init_40 rfl ?_
  refine lv_iconst (v := 2) hx hb dX1_init_41 (by decide) ?_
  refine lv_iconst (v := 2) hx hb dX1_init_42 (by decide) ?_
  refine lv_bipush (v := 30) hx hb dX1_init_43 (by decide) ?_
  have hPc := hP.sub (ws' := [(q9, .inr (0, [.int 0, .int 0, .int 0, .int 0, .int 0, .int 0, .null, .null, .null, .null]))]) [5] rfl
  have hKc := hK.sub (tys' := []) [] rfl
  have hDc := hD.sub (ws' := [(q9, .inr (0, [.int 0, .int 0, .int 0, .int 0, .int 0, .int 0, .null, .null, .null, .null]))]) [5] (by decide) rfl
  have hFc := va_free (wc := [(q9, .inr (0, [.int 0, .int 0, .int 0, .int 0, .int 0, .int 0, .null, .null, .null, .null]))]) hD hS hA [5] rfl
  refine va_callv (va_runI (As := [.int 2, .int 2, .int 30]) (rest := [.ref q9, .ref h]) ⟨hx, hb, hml, hown, hts⟩ (k0_init l dC dI H.size q9 2 2 30 ) (cwI 3 hts gX1_init_X0_init rfl rfl rfl (hts (.initialized RX0) (by decide +kernel)) (hts (.methodLink RX1 25 yX0_init) (by decide +kernel)) (hts (.instanceMethod yX0_init) (by decide +kernel)) rfl (by decide +kernel) ⟨Nat.le_of_ble_eq_true rfl, Nat.le_of_ble_eq_true rfl⟩) ⟨fun a U g mk q => by obtain ⟨q0, q1, qP, qK, qD⟩ := q; exact ⟨q0, q1, qP, va_K.moved (u := U) (U := U.calling g mk a) (Vm.Alike.refl U.vm) qK, qD⟩, fun U hU hW => ⟨rfl, by rw [hU], by rw [hU]; exact hPc, va_K.moved hW.alike hKc, hDc.weaken (fun _ _ _ _ => trivial)⟩⟩ rfl rfl hl.1 rfl (lv_room (Nat.le_of_ble_eq_true rfl)) dX1_init_45 ⟨Nat.le_of_ble_eq_true rfl, Nat.le_of_ble_eq_true rfl⟩) hS (fun q _ h => hFc q h) hFc (fun u t H1 locs ht hvm hr10 hB hz1 hk1 hS => ?_)
  obtain ⟨k__11, t__12, p__13, m__14, c1__15, c2__16, c3__17, c4__18⟩ := u
  obtain ⟨hP1, hK1, hD1⟩ := hB
  rw [ht] at hP1
  have hK1 := va_K.moved hvm.symm hK1
  try dsimp only at hr10
  obtain ⟨hP, hD⟩ := va_join (wr := [(h, .inr (1, [.ref q1, .int 0, .ref q3, .ref q5, .ref q7, .int 0, .null])), (q1, .inl (cA2, 6, .inr (.inr (.inr (.inr (fun _ => none)))))), (q3, .inl (cA4, 3, .inl (fun _ => 0))), (q5, .inl (cA6, 12, .inl (fun _ => 0))), (q7, .inl (cA8, 12, .inl (fun _ => 0)))]) (w1 := [(q9, .inr (0, [.int 2, .int 2, .int 30, .int 100, .int 0, .int 0, .ref k__11, .ref t__12, .ref p__13, .ref m__14])), (k__11, .inl (c1__15, 60, .inl (fun _ => 0))), (t__12, .inl (c2__16, 60, .inl (fun _ => 0))), (p__13, .inl (c3__17, 60, .inl (fun _ => 0))), (m__14, .inl (c4__18, 60, .inl (fun _ => 0)))]) hP hD [5] [0, 1, 2, 3, 4] rfl rfl (by decide) (by decide) hk1 hFc hP1 hD1
  have hK := hK.app hK1
  have hK : va_K (dC, dI) vwCl [(cA2, .object RX0), (cA4, .int), (cA6, .int), (cA8, .int), (c1__15, .int), (c2__16, .int), (c3__17, .int), (c4__18, .int)] s := hK
  generalize H1 = H at hP hS ⊢
  have hP : va_P (dC, dI) vwCl [(h, .inr (1, [.ref q1, .int 0, .ref q3, .ref q5, .ref q7, .int 0, .null])), (q1, .inl (cA2, 6, .inr (.inr (.inr (.inr (fun _ => none)))))), (q3, .inl (cA4, 3, .inl (fun _ => 0))), (q5, .inl (cA6, 12, .inl (fun _ => 0))), (q7, .inl (cA8, 12, .inl (fun _ => 0))), (q9, .inr (0, [.int 2, .int 2, .int 30, .int 100, .int 0, .int 0, .ref k__11, .ref t__12, .ref p__13, .ref m__14])), (k__11, .inl (c1__15, 60, .inl (fun _ => 0))), (t__12, .inl (c2__16, 60, .inl (fun _ => 0))), (p__13, .inl (c3__17, 60, .inl (fun _ => 0))), (m__14, .inl (c4__18, 60, .inl (fun _ => 0)))] H := hP
  have hD : va_D A [(h, .inr (1, [.ref q1, .int 0, .ref q3, .ref q5, .ref q7, .int 0, .null])), (q1, .inl (cA2, 6, .inr (.inr (.inr (.inr (fun _ => none)))))), (q3, .inl (cA4, 3, .inl (fun _ => 0))), (q5, .inl (cA6, 12, .inl (fun _ => 0))), (q7, .inl (cA8, 12, .inl (fun _ => 0))), (q9, .inr (0, [.int 2, .int 2, .int 30, .int 100, .int 0, .int 0, .ref k__11, .ref t__12, .ref p__13, .ref m__14])), (k__11, .inl (c1__15, 60, .inl (fun _ => 0))), (t__12, .inl (c2__16, 60, .inl (fun _ => 0))), (p__13, .inl (c3__17, 60, .inl (fun _ => 0))), (m__14, .inl (c4__18, 60, .inl (fun _ => 0)))] := hD
  refine W.widen (k := 9) (n := 283) (Nat.le_of_ble_eq_true rfl) (Nat.le_of_ble_eq_true rfl) ?_
  obtain - := hr10
  refine va_putF (D := (dC, dI)) (ci := 1) (v := .ref q9) (ty := .object "ThatchRoof$Roof") (C := RX1) (T := TX1) (N := 7) hx hb hts (by decide +kernel) tyX1 tyX1_ok nmX1 hown hK hP hD hS 0 rfl rfl 6 (by decide) (hts (.fieldLink RX1 28 "ThatchRoof" "trial" "LThatchRoof$Roof;") (by decide +kernel)) (fun _ h9 => h9) rfl hin rfl (by decide +kernel) rfl rfl (Nat.le_of_ble_eq_true rfl) dX1_init_48 (fun H locs hP hD hS => ?_)
  have hP : va_P (dC, dI) vwCl [(h, .inr (1, [.ref q1, .int 0, .ref q3, .ref q5, .ref q7, .int 0, .ref q9])), (q1, .inl (cA2, 6, .inr (.inr (.inr (.inr (fun _ => none)))))), (q3, .inl (cA4, 3, .inl (fun _ => 0))), (q5, .inl (cA6, 12, .inl (fun _ => 0))), (q7, .inl (cA8, 12, .inl (fun _ => 0))), (q9, .inr (0, [.int 2, .int 2, .int 30, .int 100, .int 0, .int 0, .ref k__11, .ref t__12, .ref p__13, .ref m__14])), (k__11, .inl (c1__15, 60, .inl (fun _ => 0))), (t__12, .inl (c2__16, 60, .inl (fun _ => 0))), (p__13, .inl (c3__17, 60, .inl (fun _ => 0))), (m__14, .inl (c4__18, 60, .inl (fun _ => 0)))] H := hP
  have hD : va_D A [(h, .inr (1, [.ref q1, .int 0, .ref q3, .ref q5, .ref q7, .int 0, .ref q9])), (q1, .inl (cA2, 6, .inr (.inr (.inr (.inr (fun _ => none)))))), (q3, .inl (cA4, 3, .inl (fun _ => 0))), (q5, .inl (cA6, 12, .inl (fun _ => 0))), (q7, .inl (cA8, 12, .inl (fun _ => 0))), (q9, .inr (0, [.int 2, .int 2, .int 30, .int 100, .int 0, .int 0, .ref k__11, .ref t__12, .ref p__13, .ref m__14])), (k__11, .inl (c1__15, 60, .inl (fun _ => 0))), (t__12, .inl (c2__16, 60, .inl (fun _ => 0))), (p__13, .inl (c3__17, 60, .inl (fun _ => 0))), (m__14, .inl (c4__18, 60, .inl (fun _ => 0)))] := hD
  refine lv_iconst (v := 0) hx hb dX1_init_51 (by decide) ?_
  refine lv_istore_n (lv' := [(1, .int 0), (0, .ref h)]) hx hb dX1_init_52 rfl hl (by decide) rfl (fun ls hl => ?_)
  suffices K53 : ∀ (n : Nat) (i : Nat) (f : Nat → Int32), (i ≤ 12) → (∀ j : Nat, j < i → f j = 4) → 12 - i < n → ∀ (H : Heap) (locs : List Loc), va_P (dC, dI) vwCl [(h, .inr (1, [.ref q1, .int 0, .ref q3, .ref q5, .ref q7, .int 0, .ref q9])), (q1, .inl (cA2, 6, .inr (.inr (.inr (.inr (fun _ => none)))))), (q3, .inl (cA4, 3, .inl (fun _ => 0))), (q5, .inl (cA6, 12, .inl f)), (q7, .inl (cA8, 12, .inl (fun _ => 0))), (q9, .inr (0, [.int 2, .int 2, .int 30, .int 100, .int 0, .int 0, .ref k__11, .ref t__12, .ref p__13, .ref m__14])), (k__11, .inl (c1__15, 60, .inl (fun _ => 0))), (t__12, .inl (c2__16, 60, .inl (fun _ => 0))), (p__13, .inl (c3__17, 60, .inl (fun _ => 0))), (m__14, .inl (c4__18, 60, .inl (fun _ => 0)))] H → va_D A [(h, .inr (1, [.ref q1, .int 0, .ref q3, .ref q5, .ref q7, .int 0, .ref q9])), (q1, .inl (cA2, 6, .inr (.inr (.inr (.inr (fun _ => none)))))), (q3, .inl (cA4, 3, .inl (fun _ => 0))), (q5, .inl (cA6, 12, .inl f)), (q7, .inl (cA8, 12, .inl (fun _ => 0))), (q9, .inr (0, [.int 2, .int 2, .int 30, .int 100, .int 0, .int 0, .ref k__11, .ref t__12, .ref p__13, .ref m__14])), (k__11, .inl (c1__15, 60, .inl (fun _ => 0))), (t__12, .inl (c2__16, 60, .inl (fun _ => 0))), (p__13, .inl (c3__17, 60, .inl (fun _ => 0))), (m__14, .inl (c4__18, 60, .inl (fun _ => 0)))] → va_S A s.heap H locs → ∀ ls : Array Slot, lv_has ls 2 [(0, .ref h), (1, .int (nI i))] → W p l e ({ frames := 2, cells := 9, slots := 283, locals := 35 } : Room) s m (([.ref h] : List Value).toArray) below meth c H locs 9 283 (MQ below (va_Qv (fun (u : Nat × Nat × Nat × Nat × Nat × ClassId × ClassId × ClassId × ClassId × (Nat → Int32)) => (∀ j : Nat, j < 12 → u.2.2.2.2.2.2.2.2.2 j = 4)) (fun (u : Nat × Nat × Nat × Nat × Nat × ClassId × ClassId × ClassId × ClassId × (Nat → Int32)) (t : State) => va_P (dC, dI) vwCl [(h, .inr (1, [.ref u.1, .int 0, .ref u.2.1, .ref u.2.2.1, .ref u.2.2.2.1, .int 0, .ref u.2.2.2.2.1])), (u.1, .inl (u.2.2.2.2.2.1, 6, .inr (.inr (.inr (.inr (fun _ => none)))))), (u.2.1, .inl (u.2.2.2.2.2.2.1, 3, .inl (fun _ => 0))), (u.2.2.1, .inl (u.2.2.2.2.2.2.2.1, 12, .inl u.2.2.2.2.2.2.2.2.2)), (u.2.2.2.1, .inl (u.2.2.2.2.2.2.2.2.1, 12, .inl (fun _ => 0)))] t.heap ∧ va_K (dC, dI) vwCl [(u.2.2.2.2.2.1, .object RX0), (u.2.2.2.2.2.2.1, .int), (u.2.2.2.2.2.2.2.1, .int), (u.2.2.2.2.2.2.2.2.1, .int)] t ∧ va_D A [(h, .inr (1, [.ref u.1, .int 0, .ref u.2.1, .ref u.2.2.1, .ref u.2.2.2.1, .int 0, .ref u.2.2.2.2.1])), (u.1, .inl (u.2.2.2.2.2.1, 6, .inr (.inr (.inr (.inr (fun _ => none)))))), (u.2.1, .inl (u.2.2.2.2.2.2.1, 3, .inl (fun _ => 0))), (u.2.2.1, .inl (u.2.2.2.2.2.2.2.1, 12, .inl u.2.2.2.2.2.2.2.2.2)), (u.2.2.2.1, .inl (u.2.2.2.2.2.2.2.2.1, 12, .inl (fun _ => 0)))]) A) (([.ref h] : List Value).toArray) s 9 283 A) (F0 m 53 ls []) from
    K53 _ 0 (fun _ => 0) (by decide) (fun j hj => absurd hj (Nat.not_lt_zero _)) (Nat.lt_succ_self _) _ _ hP hD hS _ (lv_sub hl [1, 0] rfl)
  intro n
  induction n with
  | zero =>
    intro i f hi hf hn
    exact absurd hn (Nat.not_lt_zero _)
  | succ n ih53 =>
    intro i f hi hf hn53 H locs hP hD hS ls hl
    refine lv_iload_n hx hb dX1_init_53 rfl (lv_at hl 1 rfl) ?_
    refine lv_bipush (v := 12) hx hb dX1_init_54 (by decide) ?_
    refine lv_icmp_ge (tgt := 72) hx hb dX1_init_56 (by decide) (fun c19 => ?_) (fun c19 => ?_)
    · have nc19 : 12 ≤ i := (nI_leI (a := 12) (b := i) (by omega) (by omega)).mp c19
      have hP9 := hP.sub (ws' := [(h, .inr (1, [.ref q1, .int 0, .ref q3, .ref q5, .ref q7, .int 0, .ref q9])), (q1, .inl (cA2, 6, .inr (.inr (.inr (.inr (fun _ => none)))))), (q3, .inl (cA4, 3, .inl (fun _ => 0))), (q5, .inl (cA6, 12, .inl f)), (q7, .inl (cA8, 12, .inl (fun _ => 0)))]) [0, 1, 2, 3, 4] rfl
      have hD9 := hD.sub (ws' := [(h, .inr (1, [.ref q1, .int 0, .ref q3, .ref q5, .ref q7, .int 0, .ref q9])), (q1, .inl (cA2, 6, .inr (.inr (.inr (.inr (fun _ => none)))))), (q3, .inl (cA4, 3, .inl (fun _ => 0))), (q5, .inl (cA6, 12, .inl f)), (q7, .inl (cA8, 12, .inl (fun _ => 0)))]) [0, 1, 2, 3, 4] (by decide) rfl
      have hK9 := hK.sub (tys' := [(cA2, .object RX0), (cA4, .int), (cA6, .int), (cA8, .int)]) [0, 1, 2, 3] rfl
      refine W.widen (k := 9) (n := 283) (Nat.le_of_ble_eq_true rfl) (Nat.le_of_ble_eq_true rfl) ?_
      exact W.vret hx hb hr (fun t ht hW => ⟨⟨(q1, q3, q5, q7, q9, cA2, cA4, cA6, cA8, f), rfl, fun j hj => hf j (by omega), ⟨by rw [ht]; exact hP9, va_K.moved hW.alike hK9, hD9⟩⟩, hS.F ht⟩) hS.2.2 dX1_init_72
    · have nc19 : i < 12 := Nat.lt_of_not_le (fun q => c19 ((nI_leI (a := 12) (b := i) (by omega) (by omega)).mpr q))
      refine lv_aload_n hx hb dX1_init_59 rfl (lv_at hl 0 rfl) ?_
      refine va_get (D := (dC, dI)) (ci := 1) (v := .ref q5) (C := RX1) (T := TX1) (N := 7) hx hb hts (by decide +kernel) hown hK hP 0 rfl rfl 3 (by decide) (hts (.fieldLink RX1 19 "ThatchRoof" "rains" "[I") (by decide +kernel)) (fun _ h9 => h9) rfl dX1_init_60 ?_
      refine lv_iload_n hx hb dX1_init_63 rfl (lv_at hl 1 rfl) ?_
      refine lv_iconst (v := 4) hx hb dX1_init_64 (by decide) ?_
      refine va_iast hx hb hK hP hD hS 3 2 rfl rfl (vp_in_nI (by omega) (by omega)) dX1_init_65 (fun H locs hP hD hS => ?_)
      rw [nI_clamp (show i < 2 ^ 31 by omega)] at hP hD
      have hP : va_P (dC, dI) vwCl [(h, .inr (1, [.ref q1, .int 0, .ref q3, .ref q5, .ref q7, .int 0, .ref q9])), (q1, .inl (cA2, 6, .inr (.inr (.inr (.inr (fun _ => none)))))), (q3, .inl (cA4, 3, .inl (fun _ => 0))), (q5, .inl (cA6, 12, .inl (upd f i 4))), (q7, .inl (cA8, 12, .inl (fun _ => 0))), (q9, .inr (0, [.int 2, .int 2, .int 30, .int 100, .int 0, .int 0, .ref k__11, .ref t__12, .ref p__13, .ref m__14])), (k__11, .inl (c1__15, 60, .inl (fun _ => 0))), (t__12, .inl (c2__16, 60, .inl (fun _ => 0))), (p__13, .inl (c3__17, 60, .inl (fun _ => 0))), (m__14, .inl (c4__18, 60, .inl (fun _ => 0)))] H := hP
      have hD : va_D A [(h, .inr (1, [.ref q1, .int 0, .ref q3, .ref q5, .ref q7, .int 0, .ref q9])), (q1, .inl (cA2, 6, .inr (.inr (.inr (.inr (fun _ => none)))))), (q3, .inl (cA4, 3, .inl (fun _ => 0))), (q5, .inl (cA6, 12, .inl (upd f i 4))), (q7, .inl (cA8, 12, .inl (fun _ => 0))), (q9, .inr (0, [.int 2, .int 2, .int 30, .int 100, .int 0, .int 0, .ref k__11, .ref t__12, .ref p__13, .ref m__14])), (k__11, .inl (c1__15, 60, .inl (fun _ => 0))), (t__12, .inl (c2__16, 60, .inl (fun _ => 0))), (p__13, .inl (c3__17, 60, .inl (fun _ => 0))), (m__14, .inl (c4__18, 60, .inl (fun _ => 0)))] := hD
      refine lv_iinc (v := nI (i + 1)) (lv' := [(1, .int (nI (i + 1))), (0, .ref h)]) hx hb dX1_init_66 hl (k := 1) rfl (by exact nI_1 i) (by decide) rfl (fun ls hl => ?_)
      refine lv_goto (tgt := 53) hx hb dX1_init_69 (by decide) ?_
      exact ih53 (i + 1) (upd f i 4) (by omega) (fun j hj => by by_cases hji : j = i <;> first | (subst hji; exact pk_us) | (rw [pk_un hji]; exact hf j (by omega))) (by omega) _ _ (hP.sub [0, 1, 2, 3, 4, 5, 6, 7, 8, 9] rfl) (hD.sub [0, 1, 2, 3, 4, 5, 6, 7, 8, 9] (by decide) rfl) hS _ (lv_sub hl [1, 0] rfl)
end
section
theorem zN_mul (a b : Nat) : nI a * nI b = nI (a * b) := (Int32.ofNat_mul a b).symm
/-- a method that made a cell which its world still holds: the heap has grown -/
theorem zz_one {A : Nat → Prop} {ws w1 : va_W} {sz : Nat} {D : va_G} {cl : List vw_C} {H : Heap} (hAe : va_A ws sz = A) (hD : va_D A w1) (hP : va_P D cl w1 H) (i : Nat) (js : List Nat) {q : Nat × va_E} (hq : w1[i]? = some q)
    (hj : js.map (fun j => (w1[j]?).map Prod.fst) = ws.map (fun x => some x.1)) (hn : i ∉ js) : sz + 1 ≤ H.size := by
  have h1 : A q.1 := hD.2 i q hq
  rw [← hAe] at h1
  have h2 : q.1 < H.size := (hP i q hq).lt
  rcases h1 with ⟨k, e, hk⟩ | h1
  · have h3 : (js.map (fun j => (w1[j]?).map Prod.fst))[k]? = some (some q.1) := by rw [hj, List.getElem?_map, hk]; rfl
    rw [List.getElem?_map] at h3
    cases hi : js[k]? with
    | none => rw [hi] at h3; cases h3
    | some j =>
      rw [hi] at h3
      have h4 : (w1[j]?).map Prod.fst = some q.1 := Option.some.inj h3
      cases hw : w1[j]? with
      | none => rw [hw] at h4; cases h4
      | some y =>
        rw [hw] at h4
        have h5 : y.1 = q.1 := Option.some.inj h4
        have h6 := hD.1 j i y q hw hq h5
        subst h6
        exact absurd (List.mem_of_getElem? hi) hn
  · omega

set_option maxHeartbeats 4000000 in
set_option maxRecDepth 100000 in
theorem r0_thicknessAt (l : Launch) (dC : Nat → ClassId) (dI : Nat → Nat → Nat) (rh : Nat) (rk : Nat) (rt : Nat) (rp : Nat) (rm : Nat) (cT : ClassId) (cu : Nat) (pl : Nat) (hcu : cu < 6) (hpl : pl < 10) : Met l yX0_thicknessAt wsX0_thicknessAt ({ frames := 0, cells := 0, slots := 0, locals := 0 }) (va_Pc [.ref rh, .int (nI cu), .int (nI pl)] (fun U => va_P (dC, dI) vwCl [(rh, .inr (0, [.int 10, .int 6, .int 30, .int 100, .int 0, .int 0, .ref rk, .ref rt, .ref rp, .ref rm])), (rt, .inl (cT, 60, .inl (fun _ => 0)))] U.heap ∧ va_K (dC, dI) vwCl [(cT, .int)] U)) (vp_Si (fun r : Int32 => r = 0)) 0 0 (fun _ => False) := by
  refine Met.ofW (cc := cX0_thicknessAt) (maxL := 3) (ret := (some .int)) (by decide) rfl ?_
  intro p e s m args below meth c s₁ B hml hv
  obtain ⟨rfl, hP, hK⟩ := hv
  have hx := B.exec
  have hb := B.bytes
  have hr := B.returns
  have hts := atoms_spec (ws := wsX0_thicknessAt) B.pre
  have hown : s.vm.findClass RX0 = some m.cls := findClass_of_methodNamed B.named
  have hlocks := B.notSynchronized
  have hP : va_P (dC, dI) vwCl [(rh, .inr (0, [.int 10, .int 6, .int 30, .int 100, .int 0, .int 0, .ref rk, .ref rt, .ref rp, .ref rm])), (rt, .inl (cT, 60, .inl (fun _ => 0)))] s.heap := hP
  have hl := lv_entry ([.ref rh, .int (nI cu), .int (nI pl)]) (n := 3) (Nat.le_of_ble_eq_true rfl)
  rw [lg_entry_eq]
  generalize (lg_sl ([.ref rh, .int (nI cu), .int (nI pl)]) ++ List.replicate (3 - (lg_sl ([.ref rh, .int (nI cu), .int (nI pl)])).length) Slot.unset).toArray = ls at hl ⊢
  have hl : lv_has ls 3 [(0, .ref rh), (1, .int (nI cu)), (2, .int (nI pl))] := hl
  refine lv_iload_n hx hb dX0_thicknessAt_0 rfl (lv_at hl 1 rfl) ?_
  refine lv_if_lt (tgt := 24) hx hb dX0_thicknessAt_1 (by decide) (fun c1 => ?_) (fun c1 => ?_)
  · have nc1 : cu < 0 := (nI_ltI (a := cu) (b := 0) (by omega) (by omega)).mp c1
    refine lv_iconst (v := 0) hx hb dX0_thicknessAt_24 (by decide) ?_
    exact W.iret (v := 0) hx hb hr (fun t ht hW => ⟨0, rfl, by (first | rfl | assumption | decide | (simp_all; done) | grind), ht⟩) (fun _ h => nomatch h) dX0_thicknessAt_25
  · have nc1 : 0 ≤ cu := Nat.le_of_not_lt (fun q => c1 ((nI_ltI (a := cu) (b := 0) (by omega) (by omega)).mpr q))
    refine lv_iload_n hx hb dX0_thicknessAt_4 rfl (lv_at hl 1 rfl) ?_
    refine lv_aload_n hx hb dX0_thicknessAt_5 rfl (lv_at hl 0 rfl) ?_
    refine va_get (D := (dC, dI)) (ci := 0) (v := .int 6) (C := RX0) (T := TX0) (N := 10) hx hb hts (by decide +kernel) hown hK hP 0 rfl rfl 1 (by decide) (hts (.fieldLink RX0 28 "ThatchRoof$Roof" "courses" "I") (by decide +kernel)) (fun _ h9 => h9) rfl dX0_thicknessAt_6 ?_
    refine lv_icmp_ge (tgt := 24) hx hb dX0_thicknessAt_9 (by decide) (fun c2 => ?_) (fun c2 => ?_)
    · have nc2 : 6 ≤ cu := (nI_leI (a := 6) (b := cu) (by omega) (by omega)).mp c2
      refine lv_iconst (v := 0) hx hb dX0_thicknessAt_24 (by decide) ?_
      exact W.iret (v := 0) hx hb hr (fun t ht hW => ⟨0, rfl, by (first | rfl | assumption | decide | (simp_all; done) | grind), ht⟩) (fun _ h => nomatch h) dX0_thicknessAt_25
    · have nc2 : cu < 6 := Nat.lt_of_not_le (fun q => c2 ((nI_leI (a := 6) (b := cu) (by omega) (by omega)).mpr q))
      refine lv_iload_n hx hb dX0_thicknessAt_12 rfl (lv_at hl 2 rfl) ?_
      refine lv_if_lt (tgt := 24) hx hb dX0_thicknessAt_13 (by decide) (fun c3 => ?_) (fun c3 => ?_)
      · have nc3 : pl < 0 := (nI_ltI (a := pl) (b := 0) (by omega) (by omega)).mp c3
        refine lv_iconst (v := 0) hx hb dX0_thicknessAt_24 (by decide) ?_
        exact W.iret (v := 0) hx hb hr (fun t ht hW => ⟨0, rfl, by (first | rfl | assumption | decide | (simp_all; done) | grind), ht⟩) (fun _ h => nomatch h) dX0_thicknessAt_25
      · have nc3 : 0 ≤ pl := Nat.le_of_not_lt (fun q => c3 ((nI_ltI (a := pl) (b := 0) (by omega) (by omega)).mpr q))
        refine lv_iload_n hx hb dX0_thicknessAt_16 rfl (lv_at hl 2 rfl) ?_
        refine lv_aload_n hx hb dX0_thicknessAt_17 rfl (lv_at hl 0 rfl) ?_
        refine va_get (D := (dC, dI)) (ci := 0) (v := .int 10) (C := RX0) (T := TX0) (N := 10) hx hb hts (by decide +kernel) hown hK hP 0 rfl rfl 0 (by decide) (hts (.fieldLink RX0 24 "ThatchRoof$Roof" "width" "I") (by decide +kernel)) (fun _ h9 => h9) rfl dX0_thicknessAt_18 ?_
        refine lv_icmp_lt (tgt := 26) hx hb dX0_thicknessAt_21 (by decide) (fun c4 => ?_) (fun c4 => ?_)
        · have nc4 : pl < 10 := (nI_ltI (a := pl) (b := 10) (by omega) (by omega)).mp c4
          refine lv_aload_n hx hb dX0_thicknessAt_26 rfl (lv_at hl 0 rfl) ?_
          refine va_get (D := (dC, dI)) (ci := 0) (v := .ref rt) (C := RX0) (T := TX0) (N := 10) hx hb hts (by decide +kernel) hown hK hP 0 rfl rfl 7 (by decide) (hts (.fieldLink RX0 15 "ThatchRoof$Roof" "thicknesses" "[I") (by decide +kernel)) (fun _ h9 => h9) rfl dX0_thicknessAt_27 ?_
          refine lv_iload_n hx hb dX0_thicknessAt_30 rfl (lv_at hl 1 rfl) ?_
          refine lv_aload_n hx hb dX0_thicknessAt_31 rfl (lv_at hl 0 rfl) ?_
          refine va_get (D := (dC, dI)) (ci := 0) (v := .int 10) (C := RX0) (T := TX0) (N := 10) hx hb hts (by decide +kernel) hown hK hP 0 rfl rfl 0 (by decide) (hts (.fieldLink RX0 24 "ThatchRoof$Roof" "width" "I") (by decide +kernel)) (fun _ h9 => h9) rfl dX0_thicknessAt_32 ?_
          refine lv_imul hx hb dX0_thicknessAt_35 ?_
          refine lv_topi (fun x5 ex5 => ?_)
          obtain rfl : x5 = nI (cu * 10) := ex5.trans (zN_mul cu 10)
          refine lv_iload_n hx hb dX0_thicknessAt_36 rfl (lv_at hl 2 rfl) ?_
          refine lv_iadd hx hb dX0_thicknessAt_37 ?_
          refine lv_topi (fun x6 ex6 => ?_)
          obtain rfl : x6 = nI ((cu * 10) + pl) := ex6.trans (nI_add (cu * 10) pl)
          refine va_iald hx hb hK hP 1 0 rfl rfl (vp_in_nI (by omega) (by omega)) dX0_thicknessAt_38 ?_
          refine lv_topi (fun x7 ex7 => ?_)
          obtain rfl : x7 = 0 := ex7
          exact W.iret (v := 0) hx hb hr (fun t ht hW => ⟨0, rfl, by (first | rfl | assumption | decide | (simp_all; done) | grind), ht⟩) (fun _ h => nomatch h) dX0_thicknessAt_39
        · have nc4 : 10 ≤ pl := Nat.le_of_not_lt (fun q => c4 ((nI_ltI (a := pl) (b := 10) (by omega) (by omega)).mpr q))
          refine lv_iconst (v := 0) hx hb dX0_thicknessAt_24 (by decide) ?_
          exact W.iret (v := 0) hx hb hr (fun t ht hW => ⟨0, rfl, by (first | rfl | assumption | decide | (simp_all; done) | grind), ht⟩) (fun _ h => nomatch h) dX0_thicknessAt_25

set_option maxHeartbeats 4000000 in
set_option maxRecDepth 100000 in
theorem r0_hasYealm (l : Launch) (dC : Nat → ClassId) (dI : Nat → Nat → Nat) (rh : Nat) (rk : Nat) (rt : Nat) (rp : Nat) (rm : Nat) (cT : ClassId) (cu : Nat) (pl : Nat) (hcu : cu < 6) (hpl : pl < 10) : Met l yX0_hasYealm wsX0_hasYealm ({ frames := 1, cells := 0, slots := 0, locals := 22 }) (va_Pc [.ref rh, .int (nI cu), .int (nI pl)] (fun U => va_P (dC, dI) vwCl [(rh, .inr (0, [.int 10, .int 6, .int 30, .int 100, .int 0, .int 0, .ref rk, .ref rt, .ref rp, .ref rm])), (rt, .inl (cT, 60, .inl (fun _ => 0)))] U.heap ∧ va_K (dC, dI) vwCl [(cT, .int)] U)) (vp_Si (fun r : Int32 => r = 0)) 0 0 (fun _ => False) := by
  refine Met.ofW (cc := cX0_hasYealm) (maxL := 3) (ret := (some .boolean)) (by decide) rfl ?_
  intro p e s m args below meth c s₁ B hml hv
  obtain ⟨rfl, hP, hK⟩ := hv
  have hx := B.exec
  have hb := B.bytes
  have hr := B.returns
  have hts := atoms_spec (ws := wsX0_hasYealm) B.pre
  have hown : s.vm.findClass RX0 = some m.cls := findClass_of_methodNamed B.named
  have hlocks := B.notSynchronized
  have hP : va_P (dC, dI) vwCl [(rh, .inr (0, [.int 10, .int 6, .int 30, .int 100, .int 0, .int 0, .ref rk, .ref rt, .ref rp, .ref rm])), (rt, .inl (cT, 60, .inl (fun _ => 0)))] s.heap := hP
  have hl := lv_entry ([.ref rh, .int (nI cu), .int (nI pl)]) (n := 3) (Nat.le_of_ble_eq_true rfl)
  rw [lg_entry_eq]
  generalize (lg_sl ([.ref rh, .int (nI cu), .int (nI pl)]) ++ List.replicate (3 - (lg_sl ([.ref rh, .int (nI cu), .int (nI pl)])).length) Slot.unset).toArray = ls at hl ⊢
  have hl : lv_has ls 3 [(0, .ref rh), (1, .int (nI cu)), (2, .int (nI pl))] := hl
  refine lv_aload_n hx hb dX0_hasYealm_0 rfl (lv_at hl 0 rfl) ?_
  refine lv_iload_n hx hb dX0_hasYealm_1 rfl (lv_at hl 1 rfl) ?_
  refine lv_iload_n hx hb dX0_hasYealm_2 rfl (lv_at hl 2 rfl) ?_
  have hPc := hP.sub (ws' := [(rh, .inr (0, [.int 10, .int 6, .int 30, .int 100, .int 0, .int 0, .ref rk, .ref rt, .ref rp, .ref rm])), (rt, .inl (cT, 60, .inl (fun _ => 0)))]) [0, 1] rfl
  have hKc := hK.sub (tys' := [(cT, .int)]) [0] rfl
  refine vp_callSi (va_runV (As := [.int (nI cu), .int (nI pl)]) (rest := []) ⟨hx, hb, hml, hown, hts⟩ (r0_thicknessAt l dC dI rh rk rt rp rm cT cu pl (by first | assumption | decide | omega) (by first | assumption | decide | omega)) (cwV 2 hts gX0_hasYealm_X0_thicknessAt rfl rfl rfl (by decide +kernel) ⟨Nat.le_of_ble_eq_true rfl, Nat.le_of_ble_eq_true rfl⟩) ⟨fun a U g mk q => by obtain ⟨q0, qP, qK⟩ := q; exact ⟨q0, qP, va_K.moved (u := U) (U := U.calling g mk a) (Vm.Alike.refl U.vm) qK⟩, va_recv hKc hPc (ci := 0) (q0 := 0) rfl rfl, fun U hU hW => ⟨rfl, by rw [hU]; exact hPc, va_K.moved hW.alike hKc⟩⟩ rfl rfl hl.1 rfl (lv_room (Nat.le_of_ble_eq_true rfl)) dX0_hasYealm_3 ⟨Nat.le_of_ble_eq_true rfl, Nat.le_of_ble_eq_true rfl⟩).run (fun r1 hr1 => ?_)
  obtain rfl := hr1
  refine lv_if_le (tgt := 13) hx hb dX0_hasYealm_6 (by decide) (fun c2 => ?_) (fun c2 => absurd c2 (by decide))
  refine lv_iconst (v := 0) hx hb dX0_hasYealm_13 (by decide) ?_
  exact W.zret (v := 0) hx hb hr (by decide) (fun t ht hW => ⟨0, rfl, by (first | rfl | assumption | decide | (simp_all; done) | grind), ht⟩) (fun _ h => nomatch h) dX0_hasYealm_14

set_option maxHeartbeats 4000000 in
set_option maxRecDepth 100000 in
theorem r0_yealms (l : Launch) (dC : Nat → ClassId) (dI : Nat → Nat → Nat) (rh : Nat) (rk : Nat) (rt : Nat) (rp : Nat) (rm : Nat) (cT : ClassId) : Met l yX0_yealms wsX0_yealms ({ frames := 2, cells := 0, slots := 0, locals := 44 }) (va_Pc [.ref rh] (fun U => va_P (dC, dI) vwCl [(rh, .inr (0, [.int 10, .int 6, .int 30, .int 100, .int 0, .int 0, .ref rk, .ref rt, .ref rp, .ref rm])), (rt, .inl (cT, 60, .inl (fun _ => 0)))] U.heap ∧ va_K (dC, dI) vwCl [(cT, .int)] U)) (vp_Si (fun r : Int32 => r = 0)) 0 0 (fun _ => False) := by
  refine Met.ofW (cc := cX0_yealms) (maxL := 4) (ret := (some .int)) (by decide) rfl ?_
  intro p e s m args below meth c s₁ B hml hv
  obtain ⟨rfl, hP, hK⟩ := hv
  have hx := B.exec
  have hb := B.bytes
  have hr := B.returns
  have hts := atoms_spec (ws := wsX0_yealms) B.pre
  have hown : s.vm.findClass RX0 = some m.cls := findClass_of_methodNamed B.named
  have hlocks := B.notSynchronized
  have hP : va_P (dC, dI) vwCl [(rh, .inr (0, [.int 10, .int 6, .int 30, .int 100, .int 0, .int 0, .ref rk, .ref rt, .ref rp, .ref rm])), (rt, .inl (cT, 60, .inl (fun _ => 0)))] s.heap := hP
  have hl := lv_entry ([.ref rh]) (n := 4) (Nat.le_of_ble_eq_true rfl)
  rw [lg_entry_eq]
  generalize (lg_sl ([.ref rh]) ++ List.replicate (4 - (lg_sl ([.ref rh])).length) Slot.unset).toArray = ls at hl ⊢
  have hl : lv_has ls 4 [(0, .ref rh)] := hl
  refine lv_iconst (v := 0) hx hb dX0_yealms_0 (by decide) ?_
  refine lv_istore_n (lv' := [(1, .int 0), (0, .ref rh)]) hx hb dX0_yealms_1 rfl hl (by decide) rfl (fun ls hl => ?_)
  refine lv_iconst (v := 0) hx hb dX0_yealms_2 (by decide) ?_
  refine lv_istore_n (lv' := [(2, .int 0), (1, .int 0), (0, .ref rh)]) hx hb dX0_yealms_3 rfl hl (by decide) rfl (fun ls hl => ?_)
  suffices K4 : ∀ (n : Nat) (i : Nat), (i ≤ 6) → 6 - i < n → ∀ ls : Array Slot, lv_has ls 4 [(0, .ref rh), (1, .int 0), (2, .int (nI i))] → W p l e ({ frames := 2, cells := 0, slots := 0, locals := 44 } : Room) s m (([.ref rh] : List Value).toArray) below meth c s.heap [] 0 0 (MQ below (vp_Si (fun r : Int32 => r = 0)) (([.ref rh] : List Value).toArray) s 0 0 (fun _ => False)) (F0 m 4 ls []) from
    K4 _ 0 (by decide) (Nat.lt_succ_self _) _ (lv_sub hl [2, 1, 0] rfl)
  intro n
  induction n with
  | zero =>
    intro i hi hn
    exact absurd hn (Nat.not_lt_zero _)
  | succ n ih4 =>
    intro i hi hn4 ls hl
    refine lv_iload_n hx hb dX0_yealms_4 rfl (lv_at hl 2 rfl) ?_
    refine lv_aload_n hx hb dX0_yealms_5 rfl (lv_at hl 0 rfl) ?_
    refine va_get (D := (dC, dI)) (ci := 0) (v := .int 6) (C := RX0) (T := TX0) (N := 10) hx hb hts (by decide +kernel) hown hK hP 0 rfl rfl 1 (by decide) (hts (.fieldLink RX0 28 "ThatchRoof$Roof" "courses" "I") (by decide +kernel)) (fun _ h9 => h9) rfl dX0_yealms_6 ?_
    refine lv_icmp_ge (tgt := 46) hx hb dX0_yealms_9 (by decide) (fun c1 => ?_) (fun c1 => ?_)
    · have nc1 : 6 ≤ i := (nI_leI (a := 6) (b := i) (by omega) (by omega)).mp c1
      refine lv_iload_n hx hb dX0_yealms_46 rfl (lv_at hl 1 rfl) ?_
      exact W.iret (v := 0) hx hb hr (fun t ht hW => ⟨0, rfl, by (first | rfl | assumption | decide | (simp_all; done) | grind), ht⟩) (fun _ h => nomatch h) dX0_yealms_47
    · have nc1 : i < 6 := Nat.lt_of_not_le (fun q => c1 ((nI_leI (a := 6) (b := i) (by omega) (by omega)).mpr q))
      refine lv_iconst (v := 0) hx hb dX0_yealms_12 (by decide) ?_
      refine lv_istore_n (lv' := [(3, .int 0), (0, .ref rh), (1, .int 0), (2, .int (nI i))]) hx hb dX0_yealms_13 rfl hl (by decide) rfl (fun ls hl => ?_)
      suffices K14 : ∀ (n : Nat) (j : Nat), (j ≤ 10) → 10 - j < n → ∀ ls : Array Slot, lv_has ls 4 [(0, .ref rh), (1, .int 0), (2, .int (nI i)), (3, .int (nI j))] → W p l e ({ frames := 2, cells := 0, slots := 0, locals := 44 } : Room) s m (([.ref rh] : List Value).toArray) below meth c s.heap [] 0 0 (MQ below (vp_Si (fun r : Int32 => r = 0)) (([.ref rh] : List Value).toArray) s 0 0 (fun _ => False)) (F0 m 14 ls []) from
        K14 _ 0 (by decide) (Nat.lt_succ_self _) _ (lv_sub hl [1, 2, 3, 0] rfl)
      intro n
      induction n with
      | zero =>
        intro j hj hn
        exact absurd hn (Nat.not_lt_zero _)
      | succ n ih14 =>
        intro j hj hn14 ls hl
        refine lv_iload_n hx hb dX0_yealms_14 rfl (lv_at hl 3 rfl) ?_
        refine lv_aload_n hx hb dX0_yealms_15 rfl (lv_at hl 0 rfl) ?_
        refine va_get (D := (dC, dI)) (ci := 0) (v := .int 10) (C := RX0) (T := TX0) (N := 10) hx hb hts (by decide +kernel) hown hK hP 0 rfl rfl 0 (by decide) (hts (.fieldLink RX0 24 "ThatchRoof$Roof" "width" "I") (by decide +kernel)) (fun _ h9 => h9) rfl dX0_yealms_16 ?_
        refine lv_icmp_ge (tgt := 40) hx hb dX0_yealms_19 (by decide) (fun c2 => ?_) (fun c2 => ?_)
        · have nc2 : 10 ≤ j := (nI_leI (a := 10) (b := j) (by omega) (by omega)).mp c2
          refine lv_iinc (v := nI (i + 1)) (lv' := [(2, .int (nI (i + 1))), (0, .ref rh), (1, .int 0), (3, .int (nI j))]) hx hb dX0_yealms_40 hl (k := 2) rfl (by exact nI_1 i) (by decide) rfl (fun ls hl => ?_)
          refine lv_goto (tgt := 4) hx hb dX0_yealms_43 (by decide) ?_
          exact ih4 (i + 1) (by omega) (by omega) _ (lv_sub hl [1, 2, 0] rfl)
        · have nc2 : j < 10 := Nat.lt_of_not_le (fun q => c2 ((nI_leI (a := 10) (b := j) (by omega) (by omega)).mpr q))
          refine lv_aload_n hx hb dX0_yealms_22 rfl (lv_at hl 0 rfl) ?_
          refine lv_iload_n hx hb dX0_yealms_23 rfl (lv_at hl 2 rfl) ?_
          refine lv_iload_n hx hb dX0_yealms_24 rfl (lv_at hl 3 rfl) ?_
          have hPc := hP.sub (ws' := [(rh, .inr (0, [.int 10, .int 6, .int 30, .int 100, .int 0, .int 0, .ref rk, .ref rt, .ref rp, .ref rm])), (rt, .inl (cT, 60, .inl (fun _ => 0)))]) [0, 1] rfl
          have hKc := hK.sub (tys' := [(cT, .int)]) [0] rfl
          refine vp_callSi (va_runV (As := [.int (nI i), .int (nI j)]) (rest := []) ⟨hx, hb, hml, hown, hts⟩ (r0_hasYealm l dC dI rh rk rt rp rm cT i j (by first | assumption | decide | omega) (by first | assumption | decide | omega)) (cwV 2 hts gX0_yealms_X0_hasYealm rfl rfl rfl (by decide +kernel) ⟨Nat.le_of_ble_eq_true rfl, Nat.le_of_ble_eq_true rfl⟩) ⟨fun a U g mk q => by obtain ⟨q0, qP, qK⟩ := q; exact ⟨q0, qP, va_K.moved (u := U) (U := U.calling g mk a) (Vm.Alike.refl U.vm) qK⟩, va_recv hKc hPc (ci := 0) (q0 := 0) rfl rfl, fun U hU hW => ⟨rfl, by rw [hU]; exact hPc, va_K.moved hW.alike hKc⟩⟩ rfl rfl hl.1 rfl (lv_room (Nat.le_of_ble_eq_true rfl)) dX0_yealms_25 ⟨Nat.le_of_ble_eq_true rfl, Nat.le_of_ble_eq_true rfl⟩).run (fun r3 hr3 => ?_)
          obtain rfl := hr3
          refine lv_if_eq (tgt := 34) hx hb dX0_yealms_28 (by decide) (fun c4 => ?_) (fun c4 => absurd c4 (by decide))
          refine lv_iinc (v := nI (j + 1)) (lv' := [(3, .int (nI (j + 1))), (0, .ref rh), (1, .int 0), (2, .int (nI i))]) hx hb dX0_yealms_34 hl (k := 3) rfl (by exact nI_1 j) (by decide) rfl (fun ls hl => ?_)
          refine lv_goto (tgt := 14) hx hb dX0_yealms_37 (by decide) ?_
          exact ih14 (j + 1) (by omega) (by omega) _ (lv_sub hl [1, 2, 3, 0] rfl)

set_option maxHeartbeats 4000000 in
set_option maxRecDepth 100000 in
theorem r0_thicknessOver (l : Launch) (dC : Nat → ClassId) (dI : Nat → Nat → Nat) (rh : Nat) (rk : Nat) (rt : Nat) (rp : Nat) (rm : Nat) (cT : ClassId) (pl : Nat) (hpl : pl < 10) : Met l yX0_thicknessOver wsX0_thicknessOver ({ frames := 1, cells := 0, slots := 0, locals := 22 }) (va_Pc [.ref rh, .int (nI pl)] (fun U => va_P (dC, dI) vwCl [(rh, .inr (0, [.int 10, .int 6, .int 30, .int 100, .int 0, .int 0, .ref rk, .ref rt, .ref rp, .ref rm])), (rt, .inl (cT, 60, .inl (fun _ => 0)))] U.heap ∧ va_K (dC, dI) vwCl [(cT, .int)] U)) (vp_Si (fun r : Int32 => r = 0)) 0 0 (fun _ => False) := by
  refine Met.ofW (cc := cX0_thicknessOver) (maxL := 4) (ret := (some .int)) (by decide) rfl ?_
  intro p e s m args below meth c s₁ B hml hv
  obtain ⟨rfl, hP, hK⟩ := hv
  have hx := B.exec
  have hb := B.bytes
  have hr := B.returns
  have hts := atoms_spec (ws := wsX0_thicknessOver) B.pre
  have hown : s.vm.findClass RX0 = some m.cls := findClass_of_methodNamed B.named
  have hlocks := B.notSynchronized
  have hP : va_P (dC, dI) vwCl [(rh, .inr (0, [.int 10, .int 6, .int 30, .int 100, .int 0, .int 0, .ref rk, .ref rt, .ref rp, .ref rm])), (rt, .inl (cT, 60, .inl (fun _ => 0)))] s.heap := hP
  have hl := lv_entry ([.ref rh, .int (nI pl)]) (n := 4) (Nat.le_of_ble_eq_true rfl)
  rw [lg_entry_eq]
  generalize (lg_sl ([.ref rh, .int (nI pl)]) ++ List.replicate (4 - (lg_sl ([.ref rh, .int (nI pl)])).length) Slot.unset).toArray = ls at hl ⊢
  have hl : lv_has ls 4 [(0, .ref rh), (1, .int (nI pl))] := hl
  refine lv_iconst (v := 0) hx hb dX0_thicknessOver_0 (by decide) ?_
  refine lv_istore_n (lv' := [(2, .int 0), (0, .ref rh), (1, .int (nI pl))]) hx hb dX0_thicknessOver_1 rfl hl (by decide) rfl (fun ls hl => ?_)
  refine lv_iconst (v := 0) hx hb dX0_thicknessOver_2 (by decide) ?_
  refine lv_istore_n (lv' := [(3, .int 0), (2, .int 0), (0, .ref rh), (1, .int (nI pl))]) hx hb dX0_thicknessOver_3 rfl hl (by decide) rfl (fun ls hl => ?_)
  suffices K4 : ∀ (n : Nat) (i : Nat), (i ≤ 6) → 6 - i < n → ∀ ls : Array Slot, lv_has ls 4 [(0, .ref rh), (1, .int (nI pl)), (2, .int 0), (3, .int (nI i))] → W p l e ({ frames := 1, cells := 0, slots := 0, locals := 22 } : Room) s m (([.ref rh, .int (nI pl)] : List Value).toArray) below meth c s.heap [] 0 0 (MQ below (vp_Si (fun r : Int32 => r = 0)) (([.ref rh, .int (nI pl)] : List Value).toArray) s 0 0 (fun _ => False)) (F0 m 4 ls []) from
    K4 _ 0 (by decide) (Nat.lt_succ_self _) _ (lv_sub hl [2, 3, 1, 0] rfl)
  intro n
  induction n with
  | zero =>
    intro i hi hn
    exact absurd hn (Nat.not_lt_zero _)
  | succ n ih4 =>
    intro i hi hn4 ls hl
    refine lv_iload_n hx hb dX0_thicknessOver_4 rfl (lv_at hl 3 rfl) ?_
    refine lv_aload_n hx hb dX0_thicknessOver_5 rfl (lv_at hl 0 rfl) ?_
    refine va_get (D := (dC, dI)) (ci := 0) (v := .int 6) (C := RX0) (T := TX0) (N := 10) hx hb hts (by decide +kernel) hown hK hP 0 rfl rfl 1 (by decide) (hts (.fieldLink RX0 28 "ThatchRoof$Roof" "courses" "I") (by decide +kernel)) (fun _ h9 => h9) rfl dX0_thicknessOver_6 ?_
    refine lv_icmp_ge (tgt := 27) hx hb dX0_thicknessOver_9 (by decide) (fun c1 => ?_) (fun c1 => ?_)
    · have nc1 : 6 ≤ i := (nI_leI (a := 6) (b := i) (by omega) (by omega)).mp c1
      refine lv_iload_n hx hb dX0_thicknessOver_27 rfl (lv_at hl 2 rfl) ?_
      exact W.iret (v := 0) hx hb hr (fun t ht hW => ⟨0, rfl, by (first | rfl | assumption | decide | (simp_all; done) | grind), ht⟩) (fun _ h => nomatch h) dX0_thicknessOver_28
    · have nc1 : i < 6 := Nat.lt_of_not_le (fun q => c1 ((nI_leI (a := 6) (b := i) (by omega) (by omega)).mpr q))
      refine lv_iload_n hx hb dX0_thicknessOver_12 rfl (lv_at hl 2 rfl) ?_
      refine lv_aload_n hx hb dX0_thicknessOver_13 rfl (lv_at hl 0 rfl) ?_
      refine lv_iload_n hx hb dX0_thicknessOver_14 rfl (lv_at hl 3 rfl) ?_
      refine lv_iload_n hx hb dX0_thicknessOver_15 rfl (lv_at hl 1 rfl) ?_
      have hPc := hP.sub (ws' := [(rh, .inr (0, [.int 10, .int 6, .int 30, .int 100, .int 0, .int 0, .ref rk, .ref rt, .ref rp, .ref rm])), (rt, .inl (cT, 60, .inl (fun _ => 0)))]) [0, 1] rfl
      have hKc := hK.sub (tys' := [(cT, .int)]) [0] rfl
      refine vp_callSi (va_runV (As := [.int (nI i), .int (nI pl)]) (rest := [.int 0]) ⟨hx, hb, hml, hown, hts⟩ (r0_thicknessAt l dC dI rh rk rt rp rm cT i pl (by first | assumption | decide | omega) (by first | assumption | decide | omega)) (cwV 2 hts gX0_thicknessOver_X0_thicknessAt rfl rfl rfl (by decide +kernel) ⟨Nat.le_of_ble_eq_true rfl, Nat.le_of_ble_eq_true rfl⟩) ⟨fun a U g mk q => by obtain ⟨q0, qP, qK⟩ := q; exact ⟨q0, qP, va_K.moved (u := U) (U := U.calling g mk a) (Vm.Alike.refl U.vm) qK⟩, va_recv hKc hPc (ci := 0) (q0 := 0) rfl rfl, fun U hU hW => ⟨rfl, by rw [hU]; exact hPc, va_K.moved hW.alike hKc⟩⟩ rfl rfl hl.1 rfl (lv_room (Nat.le_of_ble_eq_true rfl)) dX0_thicknessOver_16 ⟨Nat.le_of_ble_eq_true rfl, Nat.le_of_ble_eq_true rfl⟩).run (fun r2 hr2 => ?_)
      obtain rfl := hr2
      refine lv_iadd hx hb dX0_thicknessOver_19 ?_
      refine W.eq (g2 := F0 m 20 ls [.int 0]) rfl ?_
      refine lv_istore_n (lv' := [(2, .int 0), (0, .ref rh), (1, .int (nI pl)), (3, .int (nI i))]) hx hb dX0_thicknessOver_20 rfl hl (by decide) rfl (fun ls hl => ?_)
      refine lv_iinc (v := nI (i + 1)) (lv' := [(3, .int (nI (i + 1))), (2, .int 0), (0, .ref rh), (1, .int (nI pl))]) hx hb dX0_thicknessOver_21 hl (k := 3) rfl (by exact nI_1 i) (by decide) rfl (fun ls hl => ?_)
      refine lv_goto (tgt := 4) hx hb dX0_thicknessOver_24 (by decide) ?_
      exact ih4 (i + 1) (by omega) (by omega) _ (lv_sub hl [2, 3, 1, 0] rfl)

set_option maxHeartbeats 4000000 in
set_option maxRecDepth 100000 in
theorem r0_thicknessInAll (l : Launch) (dC : Nat → ClassId) (dI : Nat → Nat → Nat) (rh : Nat) (rk : Nat) (rt : Nat) (rp : Nat) (rm : Nat) (cT : ClassId) : Met l yX0_thicknessInAll wsX0_thicknessInAll ({ frames := 2, cells := 0, slots := 0, locals := 45 }) (va_Pc [.ref rh] (fun U => va_P (dC, dI) vwCl [(rh, .inr (0, [.int 10, .int 6, .int 30, .int 100, .int 0, .int 0, .ref rk, .ref rt, .ref rp, .ref rm])), (rt, .inl (cT, 60, .inl (fun _ => 0)))] U.heap ∧ va_K (dC, dI) vwCl [(cT, .int)] U)) (vp_Si (fun r : Int32 => r = 0)) 0 0 (fun _ => False) := by
  refine Met.ofW (cc := cX0_thicknessInAll) (maxL := 3) (ret := (some .int)) (by decide) rfl ?_
  intro p e s m args below meth c s₁ B hml hv
  obtain ⟨rfl, hP, hK⟩ := hv
  have hx := B.exec
  have hb := B.bytes
  have hr := B.returns
  have hts := atoms_spec (ws := wsX0_thicknessInAll) B.pre
  have hown : s.vm.findClass RX0 = some m.cls := findClass_of_methodNamed B.named
  have hlocks := B.notSynchronized
  have hP : va_P (dC, dI) vwCl [(rh, .inr (0, [.int 10, .int 6, .int 30, .int 100, .int 0, .int 0, .ref rk, .ref rt, .ref rp, .ref rm])), (rt, .inl (cT, 60, .inl (fun _ => 0)))] s.heap := hP
  have hl := lv_entry ([.ref rh]) (n := 3) (Nat.le_of_ble_eq_true rfl)
  rw [lg_entry_eq]
  generalize (lg_sl ([.ref rh]) ++ List.replicate (3 - (lg_sl ([.ref rh])).length) Slot.unset).toArray = ls at hl ⊢
  have hl : lv_has ls 3 [(0, .ref rh)] := hl
  refine lv_iconst (v := 0) hx hb dX0_thicknessInAll_0 (by decide) ?_
  refine lv_istore_n (lv' := [(1, .int 0), (0, .ref rh)]) hx hb dX0_thicknessInAll_1 rfl hl (by decide) rfl (fun ls hl => ?_)
  refine lv_iconst (v := 0) hx hb dX0_thicknessInAll_2 (by decide) ?_
  refine lv_istore_n (lv' := [(2, .int 0), (1, .int 0), (0, .ref rh)]) hx hb dX0_thicknessInAll_3 rfl hl (by decide) rfl (fun ls hl => ?_)
  suffices K4 : ∀ (n : Nat) (j : Nat), (j ≤ 10) → 10 - j < n → ∀ ls : Array Slot, lv_has ls 3 [(0, .ref rh), (1, .int 0), (2, .int (nI j))] → W p l e ({ frames := 2, cells := 0, slots := 0, locals := 45 } : Room) s m (([.ref rh] : List Value).toArray) below meth c s.heap [] 0 0 (MQ below (vp_Si (fun r : Int32 => r = 0)) (([.ref rh] : List Value).toArray) s 0 0 (fun _ => False)) (F0 m 4 ls []) from
    K4 _ 0 (by decide) (Nat.lt_succ_self _) _ (lv_sub hl [2, 1, 0] rfl)
  intro n
  induction n with
  | zero =>
    intro j hj hn
    exact absurd hn (Nat.not_lt_zero _)
  | succ n ih4 =>
    intro j hj hn4 ls hl
    refine lv_iload_n hx hb dX0_thicknessInAll_4 rfl (lv_at hl 2 rfl) ?_
    refine lv_aload_n hx hb dX0_thicknessInAll_5 rfl (lv_at hl 0 rfl) ?_
    refine va_get (D := (dC, dI)) (ci := 0) (v := .int 10) (C := RX0) (T := TX0) (N := 10) hx hb hts (by decide +kernel) hown hK hP 0 rfl rfl 0 (by decide) (hts (.fieldLink RX0 24 "ThatchRoof$Roof" "width" "I") (by decide +kernel)) (fun _ h9 => h9) rfl dX0_thicknessInAll_6 ?_
    refine lv_icmp_ge (tgt := 26) hx hb dX0_thicknessInAll_9 (by decide) (fun c1 => ?_) (fun c1 => ?_)
    · have nc1 : 10 ≤ j := (nI_leI (a := 10) (b := j) (by omega) (by omega)).mp c1
      refine lv_iload_n hx hb dX0_thicknessInAll_26 rfl (lv_at hl 1 rfl) ?_
      exact W.iret (v := 0) hx hb hr (fun t ht hW => ⟨0, rfl, by (first | rfl | assumption | decide | (simp_all; done) | grind), ht⟩) (fun _ h => nomatch h) dX0_thicknessInAll_27
    · have nc1 : j < 10 := Nat.lt_of_not_le (fun q => c1 ((nI_leI (a := 10) (b := j) (by omega) (by omega)).mpr q))
      refine lv_iload_n hx hb dX0_thicknessInAll_12 rfl (lv_at hl 1 rfl) ?_
      refine lv_aload_n hx hb dX0_thicknessInAll_13 rfl (lv_at hl 0 rfl) ?_
      refine lv_iload_n hx hb dX0_thicknessInAll_14 rfl (lv_at hl 2 rfl) ?_
      have hPc := hP.sub (ws' := [(rh, .inr (0, [.int 10, .int 6, .int 30, .int 100, .int 0, .int 0, .ref rk, .ref rt, .ref rp, .ref rm])), (rt, .inl (cT, 60, .inl (fun _ => 0)))]) [0, 1] rfl
      have hKc := hK.sub (tys' := [(cT, .int)]) [0] rfl
      refine vp_callSi (va_runV (As := [.int (nI j)]) (rest := [.int 0]) ⟨hx, hb, hml, hown, hts⟩ (r0_thicknessOver l dC dI rh rk rt rp rm cT j (by first | assumption | decide | omega)) (cwV 1 hts gX0_thicknessInAll_X0_thicknessOver rfl rfl rfl (by decide +kernel) ⟨Nat.le_of_ble_eq_true rfl, Nat.le_of_ble_eq_true rfl⟩) ⟨fun a U g mk q => by obtain ⟨q0, qP, qK⟩ := q; exact ⟨q0, qP, va_K.moved (u := U) (U := U.calling g mk a) (Vm.Alike.refl U.vm) qK⟩, va_recv hKc hPc (ci := 0) (q0 := 0) rfl rfl, fun U hU hW => ⟨rfl, by rw [hU]; exact hPc, va_K.moved hW.alike hKc⟩⟩ rfl rfl hl.1 rfl (lv_room (Nat.le_of_ble_eq_true rfl)) dX0_thicknessInAll_15 ⟨Nat.le_of_ble_eq_true rfl, Nat.le_of_ble_eq_true rfl⟩).run (fun r2 hr2 => ?_)
      obtain rfl := hr2
      refine lv_iadd hx hb dX0_thicknessInAll_18 ?_
      refine W.eq (g2 := F0 m 19 ls [.int 0]) rfl ?_
      refine lv_istore_n (lv' := [(1, .int 0), (0, .ref rh), (2, .int (nI j))]) hx hb dX0_thicknessInAll_19 rfl hl (by decide) rfl (fun ls hl => ?_)
      refine lv_iinc (v := nI (j + 1)) (lv' := [(2, .int (nI (j + 1))), (1, .int 0), (0, .ref rh)]) hx hb dX0_thicknessInAll_20 hl (k := 2) rfl (by exact nI_1 j) (by decide) rfl (fun ls hl => ?_)
      refine lv_goto (tgt := 4) hx hb dX0_thicknessInAll_23 (by decide) ?_
      exact ih4 (j + 1) (by omega) (by omega) _ (lv_sub hl [2, 1, 0] rfl)

set_option maxHeartbeats 4000000 in
set_option maxRecDepth 100000 in
theorem r0_leaks (l : Launch) (dC : Nat → ClassId) (dI : Nat → Nat → Nat) (rh : Nat) (rk : Nat) (rt : Nat) (rp : Nat) (rm : Nat) (cT : ClassId) : Met l yX0_leaks wsX0_leaks ({ frames := 2, cells := 0, slots := 0, locals := 45 }) (va_Pc [.ref rh] (fun U => va_P (dC, dI) vwCl [(rh, .inr (0, [.int 10, .int 6, .int 30, .int 100, .int 0, .int 0, .ref rk, .ref rt, .ref rp, .ref rm])), (rt, .inl (cT, 60, .inl (fun _ => 0)))] U.heap ∧ va_K (dC, dI) vwCl [(cT, .int)] U)) (vp_Si (fun r : Int32 => True)) 0 0 (fun _ => False) := by
  refine Met.ofW (cc := cX0_leaks) (maxL := 3) (ret := (some .int)) (by decide) rfl ?_
  intro p e s m args below meth c s₁ B hml hv
  obtain ⟨rfl, hP, hK⟩ := hv
  have hx := B.exec
  have hb := B.bytes
  have hr := B.returns
  have hts := atoms_spec (ws := wsX0_leaks) B.pre
  have hown : s.vm.findClass RX0 = some m.cls := findClass_of_methodNamed B.named
  have hlocks := B.notSynchronized
  have hP : va_P (dC, dI) vwCl [(rh, .inr (0, [.int 10, .int 6, .int 30, .int 100, .int 0, .int 0, .ref rk, .ref rt, .ref rp, .ref rm])), (rt, .inl (cT, 60, .inl (fun _ => 0)))] s.heap := hP
  have hl := lv_entry ([.ref rh]) (n := 3) (Nat.le_of_ble_eq_true rfl)
  rw [lg_entry_eq]
  generalize (lg_sl ([.ref rh]) ++ List.replicate (3 - (lg_sl ([.ref rh])).length) Slot.unset).toArray = ls at hl ⊢
  have hl : lv_has ls 3 [(0, .ref rh)] := hl
  refine lv_iconst (v := 0) hx hb dX0_leaks_0 (by decide) ?_
  refine lv_istore_n (lv' := [(1, .int 0), (0, .ref rh)]) hx hb dX0_leaks_1 rfl hl (by decide) rfl (fun ls hl => ?_)
  refine lv_iconst (v := 0) hx hb dX0_leaks_2 (by decide) ?_
  refine lv_istore_n (lv' := [(2, .int 0), (1, .int 0), (0, .ref rh)]) hx hb dX0_leaks_3 rfl hl (by decide) rfl (fun ls hl => ?_)
  suffices K4 : ∀ (n : Nat) (j : Nat), (j ≤ 10) → 10 - j < n → ∀ ls : Array Slot, lv_has ls 3 [(0, .ref rh), (1, .int (nI j)), (2, .int (nI j))] → W p l e ({ frames := 2, cells := 0, slots := 0, locals := 45 } : Room) s m (([.ref rh] : List Value).toArray) below meth c s.heap [] 0 0 (MQ below (vp_Si (fun r : Int32 => True)) (([.ref rh] : List Value).toArray) s 0 0 (fun _ => False)) (F0 m 4 ls []) from
    K4 _ 0 (by decide) (Nat.lt_succ_self _) _ (lv_sub hl [2, 1, 0] rfl)
  intro n
  induction n with
  | zero =>
    intro j hj hn
    exact absurd hn (Nat.not_lt_zero _)
  | succ n ih4 =>
    intro j hj hn4 ls hl
    refine lv_iload_n hx hb dX0_leaks_4 rfl (lv_at hl 2 rfl) ?_
    refine lv_aload_n hx hb dX0_leaks_5 rfl (lv_at hl 0 rfl) ?_
    refine va_get (D := (dC, dI)) (ci := 0) (v := .int 10) (C := RX0) (T := TX0) (N := 10) hx hb hts (by decide +kernel) hown hK hP 0 rfl rfl 0 (by decide) (hts (.fieldLink RX0 24 "ThatchRoof$Roof" "width" "I") (by decide +kernel)) (fun _ h9 => h9) rfl dX0_leaks_6 ?_
    refine lv_icmp_ge (tgt := 50) hx hb dX0_leaks_9 (by decide) (fun c1 => ?_) (fun c1 => ?_)
    · have nc1 : 10 ≤ j := (nI_leI (a := 10) (b := j) (by omega) (by omega)).mp c1
      refine lv_iload_n hx hb dX0_leaks_50 rfl (lv_at hl 1 rfl) ?_
      exact W.iret (v := nI j) hx hb hr (fun t ht hW => ⟨nI j, rfl, by exact trivial, ht⟩) (fun _ h => nomatch h) dX0_leaks_51
    · have nc1 : j < 10 := Nat.lt_of_not_le (fun q => c1 ((nI_leI (a := 10) (b := j) (by omega) (by omega)).mpr q))
      refine lv_aload_n hx hb dX0_leaks_12 rfl (lv_at hl 0 rfl) ?_
      refine lv_iload_n hx hb dX0_leaks_13 rfl (lv_at hl 2 rfl) ?_
      have hPc := hP.sub (ws' := [(rh, .inr (0, [.int 10, .int 6, .int 30, .int 100, .int 0, .int 0, .ref rk, .ref rt, .ref rp, .ref rm])), (rt, .inl (cT, 60, .inl (fun _ => 0)))]) [0, 1] rfl
      have hKc := hK.sub (tys' := [(cT, .int)]) [0] rfl
      refine vp_callSi (va_runV (As := [.int (nI j)]) (rest := []) ⟨hx, hb, hml, hown, hts⟩ (r0_thicknessOver l dC dI rh rk rt rp rm cT j (by first | assumption | decide | omega)) (cwV 1 hts gX0_leaks_X0_thicknessOver rfl rfl rfl (by decide +kernel) ⟨Nat.le_of_ble_eq_true rfl, Nat.le_of_ble_eq_true rfl⟩) ⟨fun a U g mk q => by obtain ⟨q0, qP, qK⟩ := q; exact ⟨q0, qP, va_K.moved (u := U) (U := U.calling g mk a) (Vm.Alike.refl U.vm) qK⟩, va_recv hKc hPc (ci := 0) (q0 := 0) rfl rfl, fun U hU hW => ⟨rfl, by rw [hU]; exact hPc, va_K.moved hW.alike hKc⟩⟩ rfl rfl hl.1 rfl (lv_room (Nat.le_of_ble_eq_true rfl)) dX0_leaks_14 ⟨Nat.le_of_ble_eq_true rfl, Nat.le_of_ble_eq_true rfl⟩).run (fun r2 hr2 => ?_)
      obtain rfl := hr2
      refine lv_bipush (v := 8) hx hb dX0_leaks_17 (by decide) ?_
      refine lv_aload_n hx hb dX0_leaks_19 rfl (lv_at hl 0 rfl) ?_
      refine va_get (D := (dC, dI)) (ci := 0) (v := .int 6) (C := RX0) (T := TX0) (N := 10) hx hb hts (by decide +kernel) hown hK hP 0 rfl rfl 1 (by decide) (hts (.fieldLink RX0 28 "ThatchRoof$Roof" "courses" "I") (by decide +kernel)) (fun _ h9 => h9) rfl dX0_leaks_20 ?_
      refine lv_imul hx hb dX0_leaks_23 ?_
      refine W.eq (g2 := F0 m 24 ls [.int 48, .int 0]) rfl ?_
      refine lv_icmp_lt (tgt := 41) hx hb dX0_leaks_24 (by decide) (fun c3 => ?_) (fun c3 => absurd c3 (by decide))
      refine lv_iinc (v := nI (j + 1)) (lv' := [(1, .int (nI (j + 1))), (0, .ref rh), (2, .int (nI j))]) hx hb dX0_leaks_41 hl (k := 1) rfl (by exact nI_1 j) (by decide) rfl (fun ls hl => ?_)
      refine lv_iinc (v := nI (j + 1)) (lv' := [(2, .int (nI (j + 1))), (1, .int (nI (j + 1))), (0, .ref rh)]) hx hb dX0_leaks_44 hl (k := 2) rfl (by exact nI_1 j) (by decide) rfl (fun ls hl => ?_)
      refine lv_goto (tgt := 4) hx hb dX0_leaks_47 (by decide) ?_
      exact ih4 (j + 1) (by omega) (by omega) _ (lv_sub hl [2, 1, 0] rfl)

set_option maxHeartbeats 4000000 in
set_option maxRecDepth 100000 in
theorem r0_tell0 (l : Launch) (dC : Nat → ClassId) (dI : Nat → Nat → Nat) (rh : Nat) (rk : Nat) (rt : Nat) (rp : Nat) (rm : Nat) (cT : ClassId) : Met l yX0_tell wsX0_tell ({ frames := 0, cells := 0, slots := 0, locals := 0 }) (va_Pc [.ref rh, .int 0] (fun U => va_P (dC, dI) vwCl [(rh, .inr (0, [.int 10, .int 6, .int 30, .int 100, .int 0, .int 0, .ref rk, .ref rt, .ref rp, .ref rm])), (rt, .inl (cT, 60, .inl (fun _ => 0)))] U.heap ∧ va_K (dC, dI) vwCl [(cT, .int)] U)) (vp_Si (fun r : Int32 => r = 10)) 0 0 (fun _ => False) := by
  refine Met.ofW (cc := cX0_tell) (maxL := 2) (ret := (some .int)) (by decide) rfl ?_
  intro p e s m args below meth c s₁ B hml hv
  obtain ⟨rfl, hP, hK⟩ := hv
  have hx := B.exec
  have hb := B.bytes
  have hr := B.returns
  have hts := atoms_spec (ws := wsX0_tell) B.pre
  have hown : s.vm.findClass RX0 = some m.cls := findClass_of_methodNamed B.named
  have hlocks := B.notSynchronized
  have hP : va_P (dC, dI) vwCl [(rh, .inr (0, [.int 10, .int 6, .int 30, .int 100, .int 0, .int 0, .ref rk, .ref rt, .ref rp, .ref rm])), (rt, .inl (cT, 60, .inl (fun _ => 0)))] s.heap := hP
  have hl := lv_entry ([.ref rh, .int 0]) (n := 2) (Nat.le_of_ble_eq_true rfl)
  rw [lg_entry_eq]
  generalize (lg_sl ([.ref rh, .int 0]) ++ List.replicate (2 - (lg_sl ([.ref rh, .int 0])).length) Slot.unset).toArray = ls at hl ⊢
  have hl : lv_has ls 2 [(0, .ref rh), (1, .int 0)] := hl
  refine lv_iload_n hx hb dX0_tell_0 rfl (lv_at hl 1 rfl) ?_
  refine lv_tableIn (off := 47) (tgt := 48) hx hb dX0_tell_1 (by decide) (by decide) (by rfl) (by decide) ?_
  refine lv_aload_n hx hb dX0_tell_48 rfl (lv_at hl 0 rfl) ?_
  refine va_get (D := (dC, dI)) (ci := 0) (v := .int 10) (C := RX0) (T := TX0) (N := 10) hx hb hts (by decide +kernel) hown hK hP 0 rfl rfl 0 (by decide) (hts (.fieldLink RX0 24 "ThatchRoof$Roof" "width" "I") (by decide +kernel)) (fun _ h9 => h9) rfl dX0_tell_49 ?_
  exact W.iret (v := 10) hx hb hr (fun t ht hW => ⟨10, rfl, by (first | rfl | assumption | decide | (simp_all; done) | grind), ht⟩) (fun _ h => nomatch h) dX0_tell_52

set_option maxHeartbeats 4000000 in
set_option maxRecDepth 100000 in
theorem r0_tell1 (l : Launch) (dC : Nat → ClassId) (dI : Nat → Nat → Nat) (rh : Nat) (rk : Nat) (rt : Nat) (rp : Nat) (rm : Nat) (cT : ClassId) : Met l yX0_tell wsX0_tell ({ frames := 0, cells := 0, slots := 0, locals := 0 }) (va_Pc [.ref rh, .int 1] (fun U => va_P (dC, dI) vwCl [(rh, .inr (0, [.int 10, .int 6, .int 30, .int 100, .int 0, .int 0, .ref rk, .ref rt, .ref rp, .ref rm])), (rt, .inl (cT, 60, .inl (fun _ => 0)))] U.heap ∧ va_K (dC, dI) vwCl [(cT, .int)] U)) (vp_Si (fun r : Int32 => r = 6)) 0 0 (fun _ => False) := by
  refine Met.ofW (cc := cX0_tell) (maxL := 2) (ret := (some .int)) (by decide) rfl ?_
  intro p e s m args below meth c s₁ B hml hv
  obtain ⟨rfl, hP, hK⟩ := hv
  have hx := B.exec
  have hb := B.bytes
  have hr := B.returns
  have hts := atoms_spec (ws := wsX0_tell) B.pre
  have hown : s.vm.findClass RX0 = some m.cls := findClass_of_methodNamed B.named
  have hlocks := B.notSynchronized
  have hP : va_P (dC, dI) vwCl [(rh, .inr (0, [.int 10, .int 6, .int 30, .int 100, .int 0, .int 0, .ref rk, .ref rt, .ref rp, .ref rm])), (rt, .inl (cT, 60, .inl (fun _ => 0)))] s.heap := hP
  have hl := lv_entry ([.ref rh, .int 1]) (n := 2) (Nat.le_of_ble_eq_true rfl)
  rw [lg_entry_eq]
  generalize (lg_sl ([.ref rh, .int 1]) ++ List.replicate (2 - (lg_sl ([.ref rh, .int 1])).length) Slot.unset).toArray = ls at hl ⊢
  have hl : lv_has ls 2 [(0, .ref rh), (1, .int 1)] := hl
  refine lv_iload_n hx hb dX0_tell_0 rfl (lv_at hl 1 rfl) ?_
  refine lv_tableIn (off := 52) (tgt := 53) hx hb dX0_tell_1 (by decide) (by decide) (by rfl) (by decide) ?_
  refine lv_aload_n hx hb dX0_tell_53 rfl (lv_at hl 0 rfl) ?_
  refine va_get (D := (dC, dI)) (ci := 0) (v := .int 6) (C := RX0) (T := TX0) (N := 10) hx hb hts (by decide +kernel) hown hK hP 0 rfl rfl 1 (by decide) (hts (.fieldLink RX0 28 "ThatchRoof$Roof" "courses" "I") (by decide +kernel)) (fun _ h9 => h9) rfl dX0_tell_54 ?_
  exact W.iret (v := 6) hx hb hr (fun t ht hW => ⟨6, rfl, by (first | rfl | assumption | decide | (simp_all; done) | grind), ht⟩) (fun _ h => nomatch h) dX0_tell_57

set_option maxHeartbeats 4000000 in
set_option maxRecDepth 100000 in
theorem r0_tell2 (l : Launch) (dC : Nat → ClassId) (dI : Nat → Nat → Nat) (rh : Nat) (rk : Nat) (rt : Nat) (rp : Nat) (rm : Nat) (cT : ClassId) : Met l yX0_tell wsX0_tell ({ frames := 0, cells := 0, slots := 0, locals := 0 }) (va_Pc [.ref rh, .int 2] (fun U => va_P (dC, dI) vwCl [(rh, .inr (0, [.int 10, .int 6, .int 30, .int 100, .int 0, .int 0, .ref rk, .ref rt, .ref rp, .ref rm])), (rt, .inl (cT, 60, .inl (fun _ => 0)))] U.heap ∧ va_K (dC, dI) vwCl [(cT, .int)] U)) (vp_Si (fun r : Int32 => r = 30)) 0 0 (fun _ => False) := by
  refine Met.ofW (cc := cX0_tell) (maxL := 2) (ret := (some .int)) (by decide) rfl ?_
  intro p e s m args below meth c s₁ B hml hv
  obtain ⟨rfl, hP, hK⟩ := hv
  have hx := B.exec
  have hb := B.bytes
  have hr := B.returns
  have hts := atoms_spec (ws := wsX0_tell) B.pre
  have hown : s.vm.findClass RX0 = some m.cls := findClass_of_methodNamed B.named
  have hlocks := B.notSynchronized
  have hP : va_P (dC, dI) vwCl [(rh, .inr (0, [.int 10, .int 6, .int 30, .int 100, .int 0, .int 0, .ref rk, .ref rt, .ref rp, .ref rm])), (rt, .inl (cT, 60, .inl (fun _ => 0)))] s.heap := hP
  have hl := lv_entry ([.ref rh, .int 2]) (n := 2) (Nat.le_of_ble_eq_true rfl)
  rw [lg_entry_eq]
  generalize (lg_sl ([.ref rh, .int 2]) ++ List.replicate (2 - (lg_sl ([.ref rh, .int 2])).length) Slot.unset).toArray = ls at hl ⊢
  have hl : lv_has ls 2 [(0, .ref rh), (1, .int 2)] := hl
  refine lv_iload_n hx hb dX0_tell_0 rfl (lv_at hl 1 rfl) ?_
  refine lv_tableIn (off := 57) (tgt := 58) hx hb dX0_tell_1 (by decide) (by decide) (by rfl) (by decide) ?_
  refine lv_aload_n hx hb dX0_tell_58 rfl (lv_at hl 0 rfl) ?_
  refine va_get (D := (dC, dI)) (ci := 0) (v := .int 30) (C := RX0) (T := TX0) (N := 10) hx hb hts (by decide +kernel) hown hK hP 0 rfl rfl 2 (by decide) (hts (.fieldLink RX0 31 "ThatchRoof$Roof" "slope" "I") (by decide +kernel)) (fun _ h9 => h9) rfl dX0_tell_59 ?_
  exact W.iret (v := 30) hx hb hr (fun t ht hW => ⟨30, rfl, by (first | rfl | assumption | decide | (simp_all; done) | grind), ht⟩) (fun _ h => nomatch h) dX0_tell_62

set_option maxHeartbeats 4000000 in
set_option maxRecDepth 100000 in
theorem r0_tell3 (l : Launch) (dC : Nat → ClassId) (dI : Nat → Nat → Nat) (rh : Nat) (rk : Nat) (rt : Nat) (rp : Nat) (rm : Nat) (cT : ClassId) : Met l yX0_tell wsX0_tell ({ frames := 0, cells := 0, slots := 0, locals := 0 }) (va_Pc [.ref rh, .int 3] (fun U => va_P (dC, dI) vwCl [(rh, .inr (0, [.int 10, .int 6, .int 30, .int 100, .int 0, .int 0, .ref rk, .ref rt, .ref rp, .ref rm])), (rt, .inl (cT, 60, .inl (fun _ => 0)))] U.heap ∧ va_K (dC, dI) vwCl [(cT, .int)] U)) (vp_Si (fun r : Int32 => r = 100)) 0 0 (fun _ => False) := by
  refine Met.ofW (cc := cX0_tell) (maxL := 2) (ret := (some .int)) (by decide) rfl ?_
  intro p e s m args below meth c s₁ B hml hv
  obtain ⟨rfl, hP, hK⟩ := hv
  have hx := B.exec
  have hb := B.bytes
  have hr := B.returns
  have hts := atoms_spec (ws := wsX0_tell) B.pre
  have hown : s.vm.findClass RX0 = some m.cls := findClass_of_methodNamed B.named
  have hlocks := B.notSynchronized
  have hP : va_P (dC, dI) vwCl [(rh, .inr (0, [.int 10, .int 6, .int 30, .int 100, .int 0, .int 0, .ref rk, .ref rt, .ref rp, .ref rm])), (rt, .inl (cT, 60, .inl (fun _ => 0)))] s.heap := hP
  have hl := lv_entry ([.ref rh, .int 3]) (n := 2) (Nat.le_of_ble_eq_true rfl)
  rw [lg_entry_eq]
  generalize (lg_sl ([.ref rh, .int 3]) ++ List.replicate (2 - (lg_sl ([.ref rh, .int 3])).length) Slot.unset).toArray = ls at hl ⊢
  have hl : lv_has ls 2 [(0, .ref rh), (1, .int 3)] := hl
  refine lv_iload_n hx hb dX0_tell_0 rfl (lv_at hl 1 rfl) ?_
  refine lv_tableIn (off := 62) (tgt := 63) hx hb dX0_tell_1 (by decide) (by decide) (by rfl) (by decide) ?_
  refine lv_aload_n hx hb dX0_tell_63 rfl (lv_at hl 0 rfl) ?_
  refine va_get (D := (dC, dI)) (ci := 0) (v := .int 100) (C := RX0) (T := TX0) (N := 10) hx hb hts (by decide +kernel) hown hK hP 0 rfl rfl 3 (by decide) (hts (.fieldLink RX0 34 "ThatchRoof$Roof" "ridge" "I") (by decide +kernel)) (fun _ h9 => h9) rfl dX0_tell_64 ?_
  exact W.iret (v := 100) hx hb hr (fun t ht hW => ⟨100, rfl, by (first | rfl | assumption | decide | (simp_all; done) | grind), ht⟩) (fun _ h => nomatch h) dX0_tell_67

set_option maxHeartbeats 4000000 in
set_option maxRecDepth 100000 in
theorem r0_tell4 (l : Launch) (dC : Nat → ClassId) (dI : Nat → Nat → Nat) (rh : Nat) (rk : Nat) (rt : Nat) (rp : Nat) (rm : Nat) (cT : ClassId) : Met l yX0_tell wsX0_tell ({ frames := 3, cells := 0, slots := 0, locals := 67 }) (va_Pc [.ref rh, .int 4] (fun U => va_P (dC, dI) vwCl [(rh, .inr (0, [.int 10, .int 6, .int 30, .int 100, .int 0, .int 0, .ref rk, .ref rt, .ref rp, .ref rm])), (rt, .inl (cT, 60, .inl (fun _ => 0)))] U.heap ∧ va_K (dC, dI) vwCl [(cT, .int)] U)) (vp_Si (fun r : Int32 => r = 0)) 0 0 (fun _ => False) := by
  refine Met.ofW (cc := cX0_tell) (maxL := 2) (ret := (some .int)) (by decide) rfl ?_
  intro p e s m args below meth c s₁ B hml hv
  obtain ⟨rfl, hP, hK⟩ := hv
  have hx := B.exec
  have hb := B.bytes
  have hr := B.returns
  have hts := atoms_spec (ws := wsX0_tell) B.pre
  have hown : s.vm.findClass RX0 = some m.cls := findClass_of_methodNamed B.named
  have hlocks := B.notSynchronized
  have hP : va_P (dC, dI) vwCl [(rh, .inr (0, [.int 10, .int 6, .int 30, .int 100, .int 0, .int 0, .ref rk, .ref rt, .ref rp, .ref rm])), (rt, .inl (cT, 60, .inl (fun _ => 0)))] s.heap := hP
  have hl := lv_entry ([.ref rh, .int 4]) (n := 2) (Nat.le_of_ble_eq_true rfl)
  rw [lg_entry_eq]
  generalize (lg_sl ([.ref rh, .int 4]) ++ List.replicate (2 - (lg_sl ([.ref rh, .int 4])).length) Slot.unset).toArray = ls at hl ⊢
  have hl : lv_has ls 2 [(0, .ref rh), (1, .int 4)] := hl
  refine lv_iload_n hx hb dX0_tell_0 rfl (lv_at hl 1 rfl) ?_
  refine lv_tableIn (off := 67) (tgt := 68) hx hb dX0_tell_1 (by decide) (by decide) (by rfl) (by decide) ?_
  refine lv_aload_n hx hb dX0_tell_68 rfl (lv_at hl 0 rfl) ?_
  have hPc := hP.sub (ws' := [(rh, .inr (0, [.int 10, .int 6, .int 30, .int 100, .int 0, .int 0, .ref rk, .ref rt, .ref rp, .ref rm])), (rt, .inl (cT, 60, .inl (fun _ => 0)))]) [0, 1] rfl
  have hKc := hK.sub (tys' := [(cT, .int)]) [0] rfl
  refine vp_callSi (va_runV (As := []) (rest := []) ⟨hx, hb, hml, hown, hts⟩ (r0_yealms l dC dI rh rk rt rp rm cT ) (cwV 0 hts gX0_tell_X0_yealms rfl rfl rfl (by decide +kernel) ⟨Nat.le_of_ble_eq_true rfl, Nat.le_of_ble_eq_true rfl⟩) ⟨fun a U g mk q => by obtain ⟨q0, qP, qK⟩ := q; exact ⟨q0, qP, va_K.moved (u := U) (U := U.calling g mk a) (Vm.Alike.refl U.vm) qK⟩, va_recv hKc hPc (ci := 0) (q0 := 0) rfl rfl, fun U hU hW => ⟨rfl, by rw [hU]; exact hPc, va_K.moved hW.alike hKc⟩⟩ rfl rfl hl.1 rfl (lv_room (Nat.le_of_ble_eq_true rfl)) dX0_tell_69 ⟨Nat.le_of_ble_eq_true rfl, Nat.le_of_ble_eq_true rfl⟩).run (fun r1 hr1 => ?_)
  obtain rfl := hr1
  exact W.iret (v := 0) hx hb hr (fun t ht hW => ⟨0, rfl, by (first | rfl | assumption | decide | (simp_all; done) | grind), ht⟩) (fun _ h => nomatch h) dX0_tell_72

set_option maxHeartbeats 4000000 in
set_option maxRecDepth 100000 in
theorem r0_tell5 (l : Launch) (dC : Nat → ClassId) (dI : Nat → Nat → Nat) (rh : Nat) (rk : Nat) (rt : Nat) (rp : Nat) (rm : Nat) (cT : ClassId) : Met l yX0_tell wsX0_tell ({ frames := 3, cells := 0, slots := 0, locals := 67 }) (va_Pc [.ref rh, .int 5] (fun U => va_P (dC, dI) vwCl [(rh, .inr (0, [.int 10, .int 6, .int 30, .int 100, .int 0, .int 0, .ref rk, .ref rt, .ref rp, .ref rm])), (rt, .inl (cT, 60, .inl (fun _ => 0)))] U.heap ∧ va_K (dC, dI) vwCl [(cT, .int)] U)) (vp_Si (fun r : Int32 => r = 0)) 0 0 (fun _ => False) := by
  refine Met.ofW (cc := cX0_tell) (maxL := 2) (ret := (some .int)) (by decide) rfl ?_
  intro p e s m args below meth c s₁ B hml hv
  obtain ⟨rfl, hP, hK⟩ := hv
  have hx := B.exec
  have hb := B.bytes
  have hr := B.returns
  have hts := atoms_spec (ws := wsX0_tell) B.pre
  have hown : s.vm.findClass RX0 = some m.cls := findClass_of_methodNamed B.named
  have hlocks := B.notSynchronized
  have hP : va_P (dC, dI) vwCl [(rh, .inr (0, [.int 10, .int 6, .int 30, .int 100, .int 0, .int 0, .ref rk, .ref rt, .ref rp, .ref rm])), (rt, .inl (cT, 60, .inl (fun _ => 0)))] s.heap := hP
  have hl := lv_entry ([.ref rh, .int 5]) (n := 2) (Nat.le_of_ble_eq_true rfl)
  rw [lg_entry_eq]
  generalize (lg_sl ([.ref rh, .int 5]) ++ List.replicate (2 - (lg_sl ([.ref rh, .int 5])).length) Slot.unset).toArray = ls at hl ⊢
  have hl : lv_has ls 2 [(0, .ref rh), (1, .int 5)] := hl
  refine lv_iload_n hx hb dX0_tell_0 rfl (lv_at hl 1 rfl) ?_
  refine lv_tableIn (off := 72) (tgt := 73) hx hb dX0_tell_1 (by decide) (by decide) (by rfl) (by decide) ?_
  refine lv_aload_n hx hb dX0_tell_73 rfl (lv_at hl 0 rfl) ?_
  have hPc := hP.sub (ws' := [(rh, .inr (0, [.int 10, .int 6, .int 30, .int 100, .int 0, .int 0, .ref rk, .ref rt, .ref rp, .ref rm])), (rt, .inl (cT, 60, .inl (fun _ => 0)))]) [0, 1] rfl
  have hKc := hK.sub (tys' := [(cT, .int)]) [0] rfl
  refine vp_callSi (va_runV (As := []) (rest := []) ⟨hx, hb, hml, hown, hts⟩ (r0_thicknessInAll l dC dI rh rk rt rp rm cT ) (cwV 0 hts gX0_tell_X0_thicknessInAll rfl rfl rfl (by decide +kernel) ⟨Nat.le_of_ble_eq_true rfl, Nat.le_of_ble_eq_true rfl⟩) ⟨fun a U g mk q => by obtain ⟨q0, qP, qK⟩ := q; exact ⟨q0, qP, va_K.moved (u := U) (U := U.calling g mk a) (Vm.Alike.refl U.vm) qK⟩, va_recv hKc hPc (ci := 0) (q0 := 0) rfl rfl, fun U hU hW => ⟨rfl, by rw [hU]; exact hPc, va_K.moved hW.alike hKc⟩⟩ rfl rfl hl.1 rfl (lv_room (Nat.le_of_ble_eq_true rfl)) dX0_tell_74 ⟨Nat.le_of_ble_eq_true rfl, Nat.le_of_ble_eq_true rfl⟩).run (fun r1 hr1 => ?_)
  obtain rfl := hr1
  exact W.iret (v := 0) hx hb hr (fun t ht hW => ⟨0, rfl, by (first | rfl | assumption | decide | (simp_all; done) | grind), ht⟩) (fun _ h => nomatch h) dX0_tell_77

set_option maxHeartbeats 4000000 in
set_option maxRecDepth 100000 in
theorem r0_tell6 (l : Launch) (dC : Nat → ClassId) (dI : Nat → Nat → Nat) (rh : Nat) (rk : Nat) (rt : Nat) (rp : Nat) (rm : Nat) (cT : ClassId) : Met l yX0_tell wsX0_tell ({ frames := 3, cells := 0, slots := 0, locals := 67 }) (va_Pc [.ref rh, .int 6] (fun U => va_P (dC, dI) vwCl [(rh, .inr (0, [.int 10, .int 6, .int 30, .int 100, .int 0, .int 0, .ref rk, .ref rt, .ref rp, .ref rm])), (rt, .inl (cT, 60, .inl (fun _ => 0)))] U.heap ∧ va_K (dC, dI) vwCl [(cT, .int)] U)) (vp_Si (fun r : Int32 => True)) 0 0 (fun _ => False) := by
  refine Met.ofW (cc := cX0_tell) (maxL := 2) (ret := (some .int)) (by decide) rfl ?_
  intro p e s m args below meth c s₁ B hml hv
  obtain ⟨rfl, hP, hK⟩ := hv
  have hx := B.exec
  have hb := B.bytes
  have hr := B.returns
  have hts := atoms_spec (ws := wsX0_tell) B.pre
  have hown : s.vm.findClass RX0 = some m.cls := findClass_of_methodNamed B.named
  have hlocks := B.notSynchronized
  have hP : va_P (dC, dI) vwCl [(rh, .inr (0, [.int 10, .int 6, .int 30, .int 100, .int 0, .int 0, .ref rk, .ref rt, .ref rp, .ref rm])), (rt, .inl (cT, 60, .inl (fun _ => 0)))] s.heap := hP
  have hl := lv_entry ([.ref rh, .int 6]) (n := 2) (Nat.le_of_ble_eq_true rfl)
  rw [lg_entry_eq]
  generalize (lg_sl ([.ref rh, .int 6]) ++ List.replicate (2 - (lg_sl ([.ref rh, .int 6])).length) Slot.unset).toArray = ls at hl ⊢
  have hl : lv_has ls 2 [(0, .ref rh), (1, .int 6)] := hl
  refine lv_iload_n hx hb dX0_tell_0 rfl (lv_at hl 1 rfl) ?_
  refine lv_tableIn (off := 77) (tgt := 78) hx hb dX0_tell_1 (by decide) (by decide) (by rfl) (by decide) ?_
  refine lv_aload_n hx hb dX0_tell_78 rfl (lv_at hl 0 rfl) ?_
  have hPc := hP.sub (ws' := [(rh, .inr (0, [.int 10, .int 6, .int 30, .int 100, .int 0, .int 0, .ref rk, .ref rt, .ref rp, .ref rm])), (rt, .inl (cT, 60, .inl (fun _ => 0)))]) [0, 1] rfl
  have hKc := hK.sub (tys' := [(cT, .int)]) [0] rfl
  refine vp_callSi (va_runV (As := []) (rest := []) ⟨hx, hb, hml, hown, hts⟩ (r0_leaks l dC dI rh rk rt rp rm cT ) (cwV 0 hts gX0_tell_X0_leaks rfl rfl rfl (by decide +kernel) ⟨Nat.le_of_ble_eq_true rfl, Nat.le_of_ble_eq_true rfl⟩) ⟨fun a U g mk q => by obtain ⟨q0, qP, qK⟩ := q; exact ⟨q0, qP, va_K.moved (u := U) (U := U.calling g mk a) (Vm.Alike.refl U.vm) qK⟩, va_recv hKc hPc (ci := 0) (q0 := 0) rfl rfl, fun U hU hW => ⟨rfl, by rw [hU]; exact hPc, va_K.moved hW.alike hKc⟩⟩ rfl rfl hl.1 rfl (lv_room (Nat.le_of_ble_eq_true rfl)) dX0_tell_79 ⟨Nat.le_of_ble_eq_true rfl, Nat.le_of_ble_eq_true rfl⟩).run (fun r1 hr1 => ?_)
  obtain - := hr1
  exact W.iret (v := r1) hx hb hr (fun t ht hW => ⟨r1, rfl, by exact trivial, ht⟩) (fun _ h => nomatch h) dX0_tell_82

set_option maxHeartbeats 4000000 in
set_option maxRecDepth 100000 in
theorem r0_tell7 (l : Launch) (dC : Nat → ClassId) (dI : Nat → Nat → Nat) (rh : Nat) (rk : Nat) (rt : Nat) (rp : Nat) (rm : Nat) (cT : ClassId) : Met l yX0_tell wsX0_tell ({ frames := 0, cells := 0, slots := 0, locals := 0 }) (va_Pc [.ref rh, .int 7] (fun U => va_P (dC, dI) vwCl [(rh, .inr (0, [.int 10, .int 6, .int 30, .int 100, .int 0, .int 0, .ref rk, .ref rt, .ref rp, .ref rm])), (rt, .inl (cT, 60, .inl (fun _ => 0)))] U.heap ∧ va_K (dC, dI) vwCl [(cT, .int)] U)) (vp_Si (fun r : Int32 => r = 0)) 0 0 (fun _ => False) := by
  refine Met.ofW (cc := cX0_tell) (maxL := 2) (ret := (some .int)) (by decide) rfl ?_
  intro p e s m args below meth c s₁ B hml hv
  obtain ⟨rfl, hP, hK⟩ := hv
  have hx := B.exec
  have hb := B.bytes
  have hr := B.returns
  have hts := atoms_spec (ws := wsX0_tell) B.pre
  have hown : s.vm.findClass RX0 = some m.cls := findClass_of_methodNamed B.named
  have hlocks := B.notSynchronized
  have hP : va_P (dC, dI) vwCl [(rh, .inr (0, [.int 10, .int 6, .int 30, .int 100, .int 0, .int 0, .ref rk, .ref rt, .ref rp, .ref rm])), (rt, .inl (cT, 60, .inl (fun _ => 0)))] s.heap := hP
  have hl := lv_entry ([.ref rh, .int 7]) (n := 2) (Nat.le_of_ble_eq_true rfl)
  rw [lg_entry_eq]
  generalize (lg_sl ([.ref rh, .int 7]) ++ List.replicate (2 - (lg_sl ([.ref rh, .int 7])).length) Slot.unset).toArray = ls at hl ⊢
  have hl : lv_has ls 2 [(0, .ref rh), (1, .int 7)] := hl
  refine lv_iload_n hx hb dX0_tell_0 rfl (lv_at hl 1 rfl) ?_
  refine lv_tableIn (off := 82) (tgt := 83) hx hb dX0_tell_1 (by decide) (by decide) (by rfl) (by decide) ?_
  refine lv_aload_n hx hb dX0_tell_83 rfl (lv_at hl 0 rfl) ?_
  refine va_get (D := (dC, dI)) (ci := 0) (v := .int 0) (C := RX0) (T := TX0) (N := 10) hx hb hts (by decide +kernel) hown hK hP 0 rfl rfl 4 (by decide) (hts (.fieldLink RX0 82 "ThatchRoof$Roof" "torn" "I") (by decide +kernel)) (fun _ h9 => h9) rfl dX0_tell_84 ?_
  exact W.iret (v := 0) hx hb hr (fun t ht hW => ⟨0, rfl, by (first | rfl | assumption | decide | (simp_all; done) | grind), ht⟩) (fun _ h => nomatch h) dX0_tell_87

set_option maxHeartbeats 4000000 in
set_option maxRecDepth 100000 in
theorem r0_tell8 (l : Launch) (dC : Nat → ClassId) (dI : Nat → Nat → Nat) (rh : Nat) (rk : Nat) (rt : Nat) (rp : Nat) (rm : Nat) (cT : ClassId) : Met l yX0_tell wsX0_tell ({ frames := 0, cells := 0, slots := 0, locals := 0 }) (va_Pc [.ref rh, .int 8] (fun U => va_P (dC, dI) vwCl [(rh, .inr (0, [.int 10, .int 6, .int 30, .int 100, .int 0, .int 0, .ref rk, .ref rt, .ref rp, .ref rm])), (rt, .inl (cT, 60, .inl (fun _ => 0)))] U.heap ∧ va_K (dC, dI) vwCl [(cT, .int)] U)) (vp_Si (fun r : Int32 => r = 0)) 0 0 (fun _ => False) := by
  refine Met.ofW (cc := cX0_tell) (maxL := 2) (ret := (some .int)) (by decide) rfl ?_
  intro p e s m args below meth c s₁ B hml hv
  obtain ⟨rfl, hP, hK⟩ := hv
  have hx := B.exec
  have hb := B.bytes
  have hr := B.returns
  have hts := atoms_spec (ws := wsX0_tell) B.pre
  have hown : s.vm.findClass RX0 = some m.cls := findClass_of_methodNamed B.named
  have hlocks := B.notSynchronized
  have hP : va_P (dC, dI) vwCl [(rh, .inr (0, [.int 10, .int 6, .int 30, .int 100, .int 0, .int 0, .ref rk, .ref rt, .ref rp, .ref rm])), (rt, .inl (cT, 60, .inl (fun _ => 0)))] s.heap := hP
  have hl := lv_entry ([.ref rh, .int 8]) (n := 2) (Nat.le_of_ble_eq_true rfl)
  rw [lg_entry_eq]
  generalize (lg_sl ([.ref rh, .int 8]) ++ List.replicate (2 - (lg_sl ([.ref rh, .int 8])).length) Slot.unset).toArray = ls at hl ⊢
  have hl : lv_has ls 2 [(0, .ref rh), (1, .int 8)] := hl
  refine lv_iload_n hx hb dX0_tell_0 rfl (lv_at hl 1 rfl) ?_
  refine lv_tableOut (tgt := 88) hx hb dX0_tell_1 (by decide) (by decide) ?_
  refine lv_aload_n hx hb dX0_tell_88 rfl (lv_at hl 0 rfl) ?_
  refine va_get (D := (dC, dI)) (ci := 0) (v := .int 0) (C := RX0) (T := TX0) (N := 10) hx hb hts (by decide +kernel) hown hK hP 0 rfl rfl 5 (by decide) (hts (.fieldLink RX0 85 "ThatchRoof$Roof" "worn" "I") (by decide +kernel)) (fun _ h9 => h9) rfl dX0_tell_89 ?_
  exact W.iret (v := 0) hx hb hr (fun t ht hW => ⟨0, rfl, by (first | rfl | assumption | decide | (simp_all; done) | grind), ht⟩) (fun _ h => nomatch h) dX0_tell_92

set_option maxHeartbeats 4000000 in
set_option maxRecDepth 100000 in
theorem r0_wide (l : Launch) (dC : Nat → ClassId) (dI : Nat → Nat → Nat) (rh : Nat) (rk : Nat) (rt : Nat) (rp : Nat) (rm : Nat) : Met l yX0_wide wsX0_wide ({ frames := 0, cells := 0, slots := 0, locals := 0 }) (va_Pc [.ref rh] (fun U => va_P (dC, dI) vwCl [(rh, .inr (0, [.int 10, .int 6, .int 30, .int 100, .int 0, .int 0, .ref rk, .ref rt, .ref rp, .ref rm]))] U.heap ∧ va_K (dC, dI) vwCl [] U)) (vp_Si (fun r : Int32 => r = 10)) 0 0 (fun _ => False) := by
  refine Met.ofW (cc := cX0_wide) (maxL := 1) (ret := (some .int)) (by decide) rfl ?_
  intro p e s m args below meth c s₁ B hml hv
  obtain ⟨rfl, hP, hK⟩ := hv
  have hx := B.exec
  have hb := B.bytes
  have hr := B.returns
  have hts := atoms_spec (ws := wsX0_wide) B.pre
  have hown : s.vm.findClass RX0 = some m.cls := findClass_of_methodNamed B.named
  have hlocks := B.notSynchronized
  have hP : va_P (dC, dI) vwCl [(rh, .inr (0, [.int 10, .int 6, .int 30, .int 100, .int 0, .int 0, .ref rk, .ref rt, .ref rp, .ref rm]))] s.heap := hP
  have hl := lv_entry ([.ref rh]) (n := 1) (Nat.le_of_ble_eq_true rfl)
  rw [lg_entry_eq]
  generalize (lg_sl ([.ref rh]) ++ List.replicate (1 - (lg_sl ([.ref rh])).length) Slot.unset).toArray = ls at hl ⊢
  have hl : lv_has ls 1 [(0, .ref rh)] := hl
  refine lv_aload_n hx hb dX0_wide_0 rfl (lv_at hl 0 rfl) ?_
  refine va_get (D := (dC, dI)) (ci := 0) (v := .int 10) (C := RX0) (T := TX0) (N := 10) hx hb hts (by decide +kernel) hown hK hP 0 rfl rfl 0 (by decide) (hts (.fieldLink RX0 24 "ThatchRoof$Roof" "width" "I") (by decide +kernel)) (fun _ h9 => h9) rfl dX0_wide_1 ?_
  exact W.iret (v := 10) hx hb hr (fun t ht hW => ⟨10, rfl, by (first | rfl | assumption | decide | (simp_all; done) | grind), ht⟩) (fun _ h => nomatch h) dX0_wide_4

set_option maxHeartbeats 4000000 in
set_option maxRecDepth 100000 in
theorem r0_high (l : Launch) (dC : Nat → ClassId) (dI : Nat → Nat → Nat) (rh : Nat) (rk : Nat) (rt : Nat) (rp : Nat) (rm : Nat) : Met l yX0_high wsX0_high ({ frames := 0, cells := 0, slots := 0, locals := 0 }) (va_Pc [.ref rh] (fun U => va_P (dC, dI) vwCl [(rh, .inr (0, [.int 10, .int 6, .int 30, .int 100, .int 0, .int 0, .ref rk, .ref rt, .ref rp, .ref rm]))] U.heap ∧ va_K (dC, dI) vwCl [] U)) (vp_Si (fun r : Int32 => r = 6)) 0 0 (fun _ => False) := by
  refine Met.ofW (cc := cX0_high) (maxL := 1) (ret := (some .int)) (by decide) rfl ?_
  intro p e s m args below meth c s₁ B hml hv
  obtain ⟨rfl, hP, hK⟩ := hv
  have hx := B.exec
  have hb := B.bytes
  have hr := B.returns
  have hts := atoms_spec (ws := wsX0_high) B.pre
  have hown : s.vm.findClass RX0 = some m.cls := findClass_of_methodNamed B.named
  have hlocks := B.notSynchronized
  have hP : va_P (dC, dI) vwCl [(rh, .inr (0, [.int 10, .int 6, .int 30, .int 100, .int 0, .int 0, .ref rk, .ref rt, .ref rp, .ref rm]))] s.heap := hP
  have hl := lv_entry ([.ref rh]) (n := 1) (Nat.le_of_ble_eq_true rfl)
  rw [lg_entry_eq]
  generalize (lg_sl ([.ref rh]) ++ List.replicate (1 - (lg_sl ([.ref rh])).length) Slot.unset).toArray = ls at hl ⊢
  have hl : lv_has ls 1 [(0, .ref rh)] := hl
  refine lv_aload_n hx hb dX0_high_0 rfl (lv_at hl 0 rfl) ?_
  refine va_get (D := (dC, dI)) (ci := 0) (v := .int 6) (C := RX0) (T := TX0) (N := 10) hx hb hts (by decide +kernel) hown hK hP 0 rfl rfl 1 (by decide) (hts (.fieldLink RX0 28 "ThatchRoof$Roof" "courses" "I") (by decide +kernel)) (fun _ h9 => h9) rfl dX0_high_1 ?_
  exact W.iret (v := 6) hx hb hr (fun t ht hW => ⟨6, rfl, by (first | rfl | assumption | decide | (simp_all; done) | grind), ht⟩) (fun _ h => nomatch h) dX0_high_4

set_option maxHeartbeats 4000000 in
set_option maxRecDepth 100000 in
theorem r0_tellYealm (l : Launch) (dC : Nat → ClassId) (dI : Nat → Nat → Nat) (rh : Nat) (rk : Nat) (rt : Nat) (rp : Nat) (rm : Nat) (cT : ClassId) (cu : Nat) (pl : Nat) (w : Int32) (hcu : cu < 6) (hpl : pl < 10) : Met l yX0_tellYealm wsX0_tellYealm ({ frames := 2, cells := 0, slots := 0, locals := 44 }) (va_Pc [.ref rh, .int (nI cu), .int (nI pl), .int w] (fun U => va_P (dC, dI) vwCl [(rh, .inr (0, [.int 10, .int 6, .int 30, .int 100, .int 0, .int 0, .ref rk, .ref rt, .ref rp, .ref rm])), (rt, .inl (cT, 60, .inl (fun _ => 0)))] U.heap ∧ va_K (dC, dI) vwCl [(cT, .int)] U)) (vp_Si (fun r : Int32 => True)) 0 0 (fun _ => False) := by
  refine Met.ofW (cc := cX0_tellYealm) (maxL := 5) (ret := (some .int)) (by decide) rfl ?_
  intro p e s m args below meth c s₁ B hml hv
  obtain ⟨rfl, hP, hK⟩ := hv
  have hx := B.exec
  have hb := B.bytes
  have hr := B.returns
  have hts := atoms_spec (ws := wsX0_tellYealm) B.pre
  have hown : s.vm.findClass RX0 = some m.cls := findClass_of_methodNamed B.named
  have hlocks := B.notSynchronized
  have hP : va_P (dC, dI) vwCl [(rh, .inr (0, [.int 10, .int 6, .int 30, .int 100, .int 0, .int 0, .ref rk, .ref rt, .ref rp, .ref rm])), (rt, .inl (cT, 60, .inl (fun _ => 0)))] s.heap := hP
  have hl := lv_entry ([.ref rh, .int (nI cu), .int (nI pl), .int w]) (n := 5) (Nat.le_of_ble_eq_true rfl)
  rw [lg_entry_eq]
  generalize (lg_sl ([.ref rh, .int (nI cu), .int (nI pl), .int w]) ++ List.replicate (5 - (lg_sl ([.ref rh, .int (nI cu), .int (nI pl), .int w])).length) Slot.unset).toArray = ls at hl ⊢
  have hl : lv_has ls 5 [(0, .ref rh), (1, .int (nI cu)), (2, .int (nI pl)), (3, .int w)] := hl
  refine lv_aload_n hx hb dX0_tellYealm_0 rfl (lv_at hl 0 rfl) ?_
  refine lv_iload_n hx hb dX0_tellYealm_1 rfl (lv_at hl 1 rfl) ?_
  refine lv_iload_n hx hb dX0_tellYealm_2 rfl (lv_at hl 2 rfl) ?_
  have hPc := hP.sub (ws' := [(rh, .inr (0, [.int 10, .int 6, .int 30, .int 100, .int 0, .int 0, .ref rk, .ref rt, .ref rp, .ref rm])), (rt, .inl (cT, 60, .inl (fun _ => 0)))]) [0, 1] rfl
  have hKc := hK.sub (tys' := [(cT, .int)]) [0] rfl
  refine vp_callSi (va_runV (As := [.int (nI cu), .int (nI pl)]) (rest := []) ⟨hx, hb, hml, hown, hts⟩ (r0_hasYealm l dC dI rh rk rt rp rm cT cu pl (by first | assumption | decide | omega) (by first | assumption | decide | omega)) (cwV 2 hts gX0_tellYealm_X0_hasYealm rfl rfl rfl (by decide +kernel) ⟨Nat.le_of_ble_eq_true rfl, Nat.le_of_ble_eq_true rfl⟩) ⟨fun a U g mk q => by obtain ⟨q0, qP, qK⟩ := q; exact ⟨q0, qP, va_K.moved (u := U) (U := U.calling g mk a) (Vm.Alike.refl U.vm) qK⟩, va_recv hKc hPc (ci := 0) (q0 := 0) rfl rfl, fun U hU hW => ⟨rfl, by rw [hU]; exact hPc, va_K.moved hW.alike hKc⟩⟩ rfl rfl hl.1 rfl (lv_room (Nat.le_of_ble_eq_true rfl)) dX0_tellYealm_3 ⟨Nat.le_of_ble_eq_true rfl, Nat.le_of_ble_eq_true rfl⟩).run (fun r1 hr1 => ?_)
  obtain rfl := hr1
  refine lv_if_ne (tgt := 20) hx hb dX0_tellYealm_6 (by decide) (fun c2 => absurd c2 (by decide)) (fun c2 => ?_)
  refine lv_iload_n hx hb dX0_tellYealm_9 rfl (lv_at hl 3 rfl) ?_
  refine lv_iconst (v := 1) hx hb dX0_tellYealm_10 (by decide) ?_
  refine lv_icmp_ne (tgt := 18) hx hb dX0_tellYealm_11 (by decide) (fun c3 => ?_) (fun c3 => ?_)
  · refine lv_iconst (v := 0) hx hb dX0_tellYealm_18 (by decide) ?_
    exact W.iret (v := 0) hx hb hr (fun t ht hW => ⟨0, rfl, by exact trivial, ht⟩) (fun _ h => nomatch h) dX0_tellYealm_19
  · refine lv_iconst (v := (-1)) hx hb dX0_tellYealm_14 (by decide) ?_
    refine lv_goto (tgt := 19) hx hb dX0_tellYealm_15 (by decide) ?_
    exact W.iret (v := (-1)) hx hb hr (fun t ht hW => ⟨(-1), rfl, by exact trivial, ht⟩) (fun _ h => nomatch h) dX0_tellYealm_19
end

section
-- ===== PART A: goes FIRST, ahead of the names: the tables' words, and 'selects' of the private methods out of them =====
/-- a private method of a class that the tables say can be made, by its rows of tables_1 -/
def lw_okq (q : MethodName × Nat) : Prop := (q.1.cls ≠ "java/lang/invoke/MethodHandle" ∧ q.1.cls ≠ "java/lang/invoke/VarHandle") ∧ Cond.instantiable q.1.cls q.2 ∈ tables_1 ∧ Cond.privateMethod q.1 ∈ tables_1 ∧ Cond.instanceMethod q.1 ∈ tables_1
theorem lw_p0 : lw_okq (⟨"WaySearch", "refusalOfEnds", "(II)I"⟩, 5) := ⟨⟨by decide +kernel, by decide +kernel⟩, List.mem_of_getElem? (i := 11) (by decide +kernel), List.mem_of_getElem? (i := 193) (by decide +kernel), List.mem_of_getElem? (i := 194) (by decide +kernel)⟩
theorem lw_p1 : lw_okq (⟨"WaySearch", "keep", "(LWaySearch$FoundWay;)I"⟩, 5) := ⟨⟨by decide +kernel, by decide +kernel⟩, List.mem_of_getElem? (i := 11) (by decide +kernel), List.mem_of_getElem? (i := 293) (by decide +kernel), List.mem_of_getElem? (i := 294) (by decide +kernel)⟩
theorem lw_p2 : lw_okq (⟨"WaySearch", "wayNumbered", "(I)LWaySearch$FoundWay;"⟩, 5) := ⟨⟨by decide +kernel, by decide +kernel⟩, List.mem_of_getElem? (i := 11) (by decide +kernel), List.mem_of_getElem? (i := 301) (by decide +kernel), List.mem_of_getElem? (i := 302) (by decide +kernel)⟩
theorem lw_p3 : lw_okq (⟨"WaySearch", "countLooseThings", "()I"⟩, 5) := ⟨⟨by decide +kernel, by decide +kernel⟩, List.mem_of_getElem? (i := 11) (by decide +kernel), List.mem_of_getElem? (i := 351) (by decide +kernel), List.mem_of_getElem? (i := 352) (by decide +kernel)⟩
theorem lw_p4 : lw_okq (⟨"WaySearchModel", "thing", "(I)I"⟩, 21) := ⟨⟨by decide +kernel, by decide +kernel⟩, List.mem_of_getElem? (i := 367) (by decide +kernel), List.mem_of_getElem? (i := 441) (by decide +kernel), List.mem_of_getElem? (i := 442) (by decide +kernel)⟩
theorem lw_p5 : lw_okq (⟨"WaySearchModel", "isThing", "(I)Z"⟩, 21) := ⟨⟨by decide +kernel, by decide +kernel⟩, List.mem_of_getElem? (i := 367) (by decide +kernel), List.mem_of_getElem? (i := 457) (by decide +kernel), List.mem_of_getElem? (i := 458) (by decide +kernel)⟩
theorem lw_p6 : lw_okq (⟨"WaySearchModel", "areJoined", "(II)Z"⟩, 21) := ⟨⟨by decide +kernel, by decide +kernel⟩, List.mem_of_getElem? (i := 367) (by decide +kernel), List.mem_of_getElem? (i := 474) (by decide +kernel), List.mem_of_getElem? (i := 475) (by decide +kernel)⟩
theorem lw_p7 : lw_okq (⟨"WaySearchModel", "joins", "(III)Z"⟩, 21) := ⟨⟨by decide +kernel, by decide +kernel⟩, List.mem_of_getElem? (i := 367) (by decide +kernel), List.mem_of_getElem? (i := 478) (by decide +kernel), List.mem_of_getElem? (i := 479) (by decide +kernel)⟩
theorem lw_p8 : lw_okq (⟨"WaySearchModel", "wrong", "(II)I"⟩, 21) := ⟨⟨by decide +kernel, by decide +kernel⟩, List.mem_of_getElem? (i := 367) (by decide +kernel), List.mem_of_getElem? (i := 486) (by decide +kernel), List.mem_of_getElem? (i := 487) (by decide +kernel)⟩
theorem lw_p9 : lw_okq (⟨"WaySearchModel", "isTank", "(I)Z"⟩, 21) := ⟨⟨by decide +kernel, by decide +kernel⟩, List.mem_of_getElem? (i := 367) (by decide +kernel), List.mem_of_getElem? (i := 490) (by decide +kernel), List.mem_of_getElem? (i := 491) (by decide +kernel)⟩
theorem lw_p10 : lw_okq (⟨"WaySearchModel", "shut", "()V"⟩, 21) := ⟨⟨by decide +kernel, by decide +kernel⟩, List.mem_of_getElem? (i := 367) (by decide +kernel), List.mem_of_getElem? (i := 494) (by decide +kernel), List.mem_of_getElem? (i := 495) (by decide +kernel)⟩
theorem lw_p11 : lw_okq (⟨"WaySearchModel", "exists", "(II)Z"⟩, 21) := ⟨⟨by decide +kernel, by decide +kernel⟩, List.mem_of_getElem? (i := 367) (by decide +kernel), List.mem_of_getElem? (i := 498) (by decide +kernel), List.mem_of_getElem? (i := 499) (by decide +kernel)⟩
theorem lw_p12 : lw_okq (⟨"WaySearchModel", "reckon", "(II)V"⟩, 21) := ⟨⟨by decide +kernel, by decide +kernel⟩, List.mem_of_getElem? (i := 367) (by decide +kernel), List.mem_of_getElem? (i := 502) (by decide +kernel), List.mem_of_getElem? (i := 503) (by decide +kernel)⟩
theorem lw_p13 : lw_okq (⟨"WaySearchModel", "improve", "(IIIII)Z"⟩, 21) := ⟨⟨by decide +kernel, by decide +kernel⟩, List.mem_of_getElem? (i := 367) (by decide +kernel), List.mem_of_getElem? (i := 507) (by decide +kernel), List.mem_of_getElem? (i := 508) (by decide +kernel)⟩
theorem lw_p14 : lw_okq (⟨"WaySearchModel", "goes", "(III)Z"⟩, 21) := ⟨⟨by decide +kernel, by decide +kernel⟩, List.mem_of_getElem? (i := 367) (by decide +kernel), List.mem_of_getElem? (i := 511) (by decide +kernel), List.mem_of_getElem? (i := 512) (by decide +kernel)⟩
theorem lw_p15 : lw_okq (⟨"WaySearchModel", "walk", "(III)Z"⟩, 21) := ⟨⟨by decide +kernel, by decide +kernel⟩, List.mem_of_getElem? (i := 367) (by decide +kernel), List.mem_of_getElem? (i := 516) (by decide +kernel), List.mem_of_getElem? (i := 517) (by decide +kernel)⟩
def lw_privs_1 : List (MethodName × Nat) := [(⟨"WaySearch", "refusalOfEnds", "(II)I"⟩, 5), (⟨"WaySearch", "keep", "(LWaySearch$FoundWay;)I"⟩, 5), (⟨"WaySearch", "wayNumbered", "(I)LWaySearch$FoundWay;"⟩, 5), (⟨"WaySearch", "countLooseThings", "()I"⟩, 5), (⟨"WaySearchModel", "thing", "(I)I"⟩, 21), (⟨"WaySearchModel", "isThing", "(I)Z"⟩, 21), (⟨"WaySearchModel", "areJoined", "(II)Z"⟩, 21), (⟨"WaySearchModel", "joins", "(III)Z"⟩, 21), (⟨"WaySearchModel", "wrong", "(II)I"⟩, 21), (⟨"WaySearchModel", "isTank", "(I)Z"⟩, 21), (⟨"WaySearchModel", "shut", "()V"⟩, 21), (⟨"WaySearchModel", "exists", "(II)Z"⟩, 21), (⟨"WaySearchModel", "reckon", "(II)V"⟩, 21), (⟨"WaySearchModel", "improve", "(IIIII)Z"⟩, 21), (⟨"WaySearchModel", "goes", "(III)Z"⟩, 21), (⟨"WaySearchModel", "walk", "(III)Z"⟩, 21)]
theorem lw_r1 : ∀ q ∈ lw_privs_1, lw_okq q := List.forall_mem_cons.mpr ⟨lw_p0, List.forall_mem_cons.mpr ⟨lw_p1, List.forall_mem_cons.mpr ⟨lw_p2, List.forall_mem_cons.mpr ⟨lw_p3, List.forall_mem_cons.mpr ⟨lw_p4, List.forall_mem_cons.mpr ⟨lw_p5, List.forall_mem_cons.mpr ⟨lw_p6, List.forall_mem_cons.mpr ⟨lw_p7, List.forall_mem_cons.mpr ⟨lw_p8, List.forall_mem_cons.mpr ⟨lw_p9, List.forall_mem_cons.mpr ⟨lw_p10, List.forall_mem_cons.mpr ⟨lw_p11, List.forall_mem_cons.mpr ⟨lw_p12, List.forall_mem_cons.mpr ⟨lw_p13, List.forall_mem_cons.mpr ⟨lw_p14, List.forall_mem_cons.mpr ⟨lw_p15, fun _ h => absurd h List.not_mem_nil⟩⟩⟩⟩⟩⟩⟩⟩⟩⟩⟩⟩⟩⟩⟩⟩
theorem lw_p16 : lw_okq (⟨"WaySearchModel", "isWay", "(I)Z"⟩, 21) := ⟨⟨by decide +kernel, by decide +kernel⟩, List.mem_of_getElem? (i := 367) (by decide +kernel), List.mem_of_getElem? (i := 524) (by decide +kernel), List.mem_of_getElem? (i := 525) (by decide +kernel)⟩
theorem lw_p17 : lw_okq (⟨"WaySearchModel", "behind", "(II)I"⟩, 21) := ⟨⟨by decide +kernel, by decide +kernel⟩, List.mem_of_getElem? (i := 367) (by decide +kernel), List.mem_of_getElem? (i := 532) (by decide +kernel), List.mem_of_getElem? (i := 533) (by decide +kernel)⟩
theorem lw_p18 : lw_okq (⟨"WaySearchModel", "find", "(IIIII)Z"⟩, 21) := ⟨⟨by decide +kernel, by decide +kernel⟩, List.mem_of_getElem? (i := 367) (by decide +kernel), List.mem_of_getElem? (i := 549) (by decide +kernel), List.mem_of_getElem? (i := 550) (by decide +kernel)⟩
def lw_privs_2 : List (MethodName × Nat) := [(⟨"WaySearchModel", "isWay", "(I)Z"⟩, 21), (⟨"WaySearchModel", "behind", "(II)I"⟩, 21), (⟨"WaySearchModel", "find", "(IIIII)Z"⟩, 21)]
theorem lw_r2 : ∀ q ∈ lw_privs_2, lw_okq q := List.forall_mem_cons.mpr ⟨lw_p16, List.forall_mem_cons.mpr ⟨lw_p17, List.forall_mem_cons.mpr ⟨lw_p18, fun _ h => absurd h List.not_mem_nil⟩⟩⟩
def lw_privs : List (MethodName × Nat) := lw_privs_1 ++ (lw_privs_2)
def lw_tbl : List Cond := k2_sels lw_privs ++ tables_1
theorem lw_privs_ok : ∀ q ∈ lw_privs, lw_okq q := by
  show ∀ q ∈ lw_privs_1 ++ (lw_privs_2), lw_okq q
  exact List.forall_mem_append.mpr ⟨lw_r1, lw_r2⟩
-- ===== end of PART A; then your names; then what follows =====
end
section
/-! THE BASE: one world for the whole system (a list of cells), passed whole to every method; contracts that say what comes back. -/
def gT : List Cond := lw_tbl.filter goodWord
theorem gT_in {w : Cond} (h : w ∈ lw_tbl) (hg : goodWord w = true) : w ∈ gT := List.mem_filter.mpr ⟨h, hg⟩
theorem gT_good {w : Cond} (h : w ∈ gT) : (w.onTables && w.keeps) = true ∨ ∃ ty, w = .arrayClass ty := good_of_word (List.mem_filter.mp h).2
/-- a method's words: its own code, and the tables -/
def gW (y : MethodName) (b : ByteArray) (n : Nat) (r : Option FieldType) : List Cond := .code y b n r :: gT
theorem gW_good {y : MethodName} {b : ByteArray} {n : Nat} {r : Option FieldType} (h : Cond.code y b n r ∈ gT) : GoodIn gT (gW y b n r) := by
  intro w hw
  rcases List.mem_cons.mp hw with e | h1
  · subst e
    exact ⟨h, gT_good h⟩
  · exact ⟨h1, gT_good h1⟩
theorem gW_V {y : MethodName} {b : ByteArray} {n i : Nat} {r : Option FieldType} {own C : String} (h : Cond.code y b n r ∈ gT) (h1 : Cond.methodLink own i y ∈ gT) (h2 : Cond.instanceMethod y ∈ gT) (h3 : Cond.selects C y y ∈ gT) (h4 : Cond.initialized C ∈ gT) : GoodIn gT (wsV own i C y (gW y b n r)) := by
  intro w hw
  rcases List.mem_append.mp hw with h5 | h5
  · simp only [List.mem_cons, List.not_mem_nil, or_false] at h5
    rcases h5 with e | e | e | e <;> subst e
    · exact ⟨h1, gT_good h1⟩
    · exact ⟨h2, gT_good h2⟩
    · exact ⟨h3, gT_good h3⟩
    · exact ⟨h4, gT_good h4⟩
  · exact gW_good h w h5
theorem gW_S {y : MethodName} {b : ByteArray} {n i : Nat} {r : Option FieldType} {own : String} (h : Cond.code y b n r ∈ gT) (h1 : Cond.methodLink own i y ∈ gT) (h2 : Cond.static y ∈ gT) (h4 : Cond.initialized y.cls ∈ gT) : GoodIn gT (va_wsS own i y (gW y b n r)) := by
  intro w hw
  rcases List.mem_append.mp hw with h5 | h5
  · simp only [List.mem_cons, List.not_mem_nil, or_false] at h5
    rcases h5 with e | e | e <;> subst e
    · exact ⟨h1, gT_good h1⟩
    · exact ⟨h2, gT_good h2⟩
    · exact ⟨h4, gT_good h4⟩
  · exact gW_good h w h5
/-- what the tables say of classes and array classes, and that rows of ints can be cloned -/
def kX (g : va_G) (cl : List vw_C) (tys : List (ClassId × FieldType)) (U : State) : Prop := va_K g cl tys U ∧ va_Nw (.castable "[I" "java/lang/Cloneable") U
theorem kX.warm {g : va_G} {cl : List vw_C} {tys : List (ClassId × FieldType)} {s U : State} (hW : s.WarmedH U.vm) (h : kX g cl tys s) : kX g cl tys U := ⟨va_K.moved hW.alike h.1, va_Nw.warmC hW h.2⟩
theorem kX.same {g : va_G} {cl : List vw_C} {tys : List (ClassId × FieldType)} {s U : State} (hv : s.vm = U.vm) (h : kX g cl tys s) : kX g cl tys U := ⟨va_K.moved (by rw [hv]; exact Vm.Alike.refl _) h.1, va_tabs rfl hv h.2⟩
/-- the world, and what has been written since H0 -/
def wB (g : va_G) (cl : List vw_C) (A : Nat → Prop) (H0 : Heap) (w : va_W) (H : Heap) (locs : List Loc) : Prop := va_P g cl w H ∧ va_D A w ∧ va_S A H0 H locs ∧ ∀ q, H0.size ≤ q → A q
/-- a method's own surroundings, which don't change while it runs -/
def cX (p : Program) (m : MethodId) (c : Code) (cc : ByteArray) (nL : Nat) (s : State) (args : Array Value) (own : String) (g : va_G) (cl : List vw_C) (tys : List (ClassId × FieldType)) : Prop := p.tables.exec = Jvm.exec ∧ c.code = cc ∧ c.maxLocals = nL ∧ s.vm.findClass own = some m.cls ∧ (∀ w ∈ gT, w.before args s = true) ∧ kX g cl tys s
def bI (b : Bool) : Int32 := if b then 1 else 0
theorem bI_t : bI true = 1 := rfl
theorem bI_f : bI false = 0 := rfl
theorem bI_0 {b : Bool} : bI b = 0 ↔ b = false := by cases b <;> simp [bI]
theorem bI_n0 {b : Bool} : ¬ bI b = 0 ↔ b = true := by cases b <;> simp [bI]
theorem bI_inj {a b : Bool} : bI a = bI b ↔ a = b := by cases a <;> cases b <;> simp [bI]
theorem bI_nar (b : Bool) : narrow .boolean (.int (bI b)) = .int (bI b) := by cases b <;> rfl
theorem bI_vp (b : Bool) : vp_nar .boolean (bI b) = bI b := by cases b <;> rfl
/-- a method that only reads: it answers v -/
def Rd (l : Launch) (y : MethodName) (ws : List Cond) (rm : Room) (g : va_G) (cl : List vw_C) (tys : List (ClassId × FieldType)) (av : List Value) (w : va_W) (v : Option Value) : Prop :=
  Met l y ws rm (va_Pc av (fun U => va_P g cl w U.heap ∧ kX g cl tys U)) (fun _ st o t => o = .returned v ∧ t.heap = st.heap) 0 0 (fun _ => False)
/-- a method that writes in the world w, or makes cells: some u, with its answer and the world w1 u -/
def Mt (l : Launch) (y : MethodName) (ws : List Cond) (rm : Room) (g : va_G) (cl : List vw_C) (tys : List (ClassId × FieldType)) (av : List Value) (w : va_W) {S : Type} (post : Option Value → S → Prop) (w1 : S → va_W) (mc ms : Nat) : Prop :=
  ∀ sz : Nat, Met l y ws rm (va_Pc av (fun U => U.heap.size = sz ∧ va_P g cl w U.heap ∧ kX g cl tys U ∧ va_D (fun _ => True) w)) (fun _ st o t => (∃ (v : Option Value) (u : S), o = .returned v ∧ post v u ∧ va_P g cl (w1 u) t.heap ∧ va_D (va_A w sz) (w1 u)) ∧ va_F (va_A w sz) st t) mc ms (va_A w sz)
section BASE
variable {p : Program} {l : Launch} {e : Env} {R : Room} {s : State} {m : MethodId} {args : Array Value} {below : List Frame} {meth : Method} {c : Code} {H : Heap} {locs : List Loc} {cells slots : Nat} {Q : State → Prop}
variable {cc : ByteArray} {nL pc index n maxL : Nat} {ls : Array Slot} {rest st As : List Value} {own C : String} {g : va_G} {cl : List vw_C} {tys : List (ClassId × FieldType)} {A : Nat → Prop} {H0 : Heap} {w : va_W} {y : MethodName} {bytes : ByteArray} {ret : Option FieldType} {ws : List Cond} {rm : Room} {mc ms : Nat} {b : Nat} {v : Option Value}
theorem Rd.of {av : List Value} (hy : plainName y.cls = true) (hw : ws = gW y cc maxL ret) (hown : y.cls = own) (hav : (lg_sl av).length ≤ maxL)
    (body : ∀ (p : Program) (e : Env) (s : State) (m : MethodId) (args : Array Value) (below : List Frame) (meth : Method) (c : Code), cX p m c cc maxL s args own g cl tys → meth.sig.returnType = ret → meth.locks = false → va_P g cl w s.heap → ∀ ls : Array Slot, lv_has ls maxL (lv_args 0 av) → W p l e rm s m args below meth c s.heap [] 0 0 (MQ below (fun _ st o t => o = .returned v ∧ t.heap = st.heap) args s 0 0 (fun _ => False)) (F0 m 0 ls [])) : Rd l y ws rm g cl tys av w v := by
  subst hw
  subst hown
  refine Met.ofW (cc := cc) (maxL := maxL) (ret := ret) hy rfl ?_
  intro p e s m args below meth c s₁ B hml hv
  obtain ⟨rfl, hP, hK⟩ := hv
  have hts := atoms_spec (ws := gW y cc maxL ret) B.pre
  have hl := lv_entry av (n := maxL) hav
  rw [lg_entry_eq]
  exact body p e s m _ below meth c ⟨B.exec, B.bytes, hml, findClass_of_methodNamed B.named, fun x hx => hts x (List.mem_cons_of_mem _ hx), hK⟩ B.returns B.notSynchronized hP _ hl
theorem Mt.of {av : List Value} {S : Type} {post : Option Value → S → Prop} {w1 : S → va_W} (hy : plainName y.cls = true) (hw : ws = gW y cc maxL ret) (hown : y.cls = own) (hav : (lg_sl av).length ≤ maxL)
    (body : ∀ (p : Program) (e : Env) (s : State) (m : MethodId) (args : Array Value) (below : List Frame) (meth : Method) (c : Code), cX p m c cc maxL s args own g cl tys → meth.sig.returnType = ret → meth.locks = false → meth.name = y.name → ∀ (A : Nat → Prop), A = va_A w s.heap.size → wB g cl A s.heap w s.heap [] → ∀ ls : Array Slot, lv_has ls maxL (lv_args 0 av) → W p l e rm s m args below meth c s.heap [] 0 0 (MQ below (fun _ st o t => (∃ (v : Option Value) (u : S), o = .returned v ∧ post v u ∧ va_P g cl (w1 u) t.heap ∧ va_D A (w1 u)) ∧ va_F A st t) args s mc ms A) (F0 m 0 ls [])) : Mt l y ws rm g cl tys av w post w1 mc ms := by
  intro sz
  subst hw
  subst hown
  refine Met.ofW (cc := cc) (maxL := maxL) (ret := ret) hy rfl ?_
  intro p e s m args below meth c s₁ B hml hv
  obtain ⟨rfl, hsz, hP, hK, hD⟩ := hv
  subst hsz
  have hts := atoms_spec (ws := gW y cc maxL ret) B.pre
  have hl := lv_entry av (n := maxL) hav
  rw [lg_entry_eq]
  exact body p e s m _ below meth c ⟨B.exec, B.bytes, hml, findClass_of_methodNamed B.named, fun x hx => hts x (List.mem_cons_of_mem _ hx), hK⟩ B.returns B.notSynchronized (name_of_methodNamed B.named B.method).1 _ rfl ⟨hP, hD.self, va_S.rf, fun _ h => Or.inr h⟩ _ hl
/-- behind a call: the callee's frame is in ours -/
theorem wB.free (hB : wB g cl A H0 w H locs) : ∀ q, va_A w H.size q → A q := by
  obtain ⟨hP, hD, hS, hA⟩ := hB
  intro q h
  rcases h with ⟨k, x, h⟩ | h
  · exact hD.2 k _ h
  · exact hA q (Nat.le_trans hS.1 h)
theorem cR (C0 : cX p m c cc nL s args own g cl tys) (hM : Rd l y ws rm g cl tys (.ref b :: As) w v) (cw : CallW R s args own C index y bytes maxL ret ws rm 0 0 n) {ci q0 : Nat} {q : vw_C} {fs : List Value} (hc : cl[ci]? = some q) (hq : q.1 = C) (he : w[q0]? = some (b, .inr (ci, fs))) (hP : va_P g cl w H) (hl : ls.size = nL) (hn : As.length = n) (hst : st = As.reverse ++ .ref b :: rest) (hr : (rest.map fun v => v.category).sum ≤ 8) (hdg : decode cc pc = .ok (.invokevirtual index, 3)) (hf : cells ≤ R.cells ∧ slots ≤ R.slots)
    (kk : W p l e R s m args below meth c H locs cells slots Q (F0 m (pc + 3) ls (v.toList ++ rest))) : W p l e R s m args below meth c H locs cells slots Q (F0 m pc ls st) := by
  obtain ⟨hx, hb, hml, hown, hts, hK⟩ := C0
  subst hq
  subst hst
  have hrun := W.runV (As := As) (rest := rest) (locs := locs) (cells := cells) (slots := slots) (e := e) (below := below) (meth := meth) (g := F0 m pc ls (As.reverse ++ .ref b :: rest)) ⟨hx, hb, hml, hown, hts⟩ hM cw
    ⟨fun a U g mk q => by obtain ⟨q0, qP, qK⟩ := q; exact ⟨q0, qP, kX.same (s := U) (U := U.calling g mk a) rfl qK⟩, va_recv hK.1 hP hc he, fun U hU hW => ⟨rfl, by rw [hU]; exact hP, kX.warm hW hK⟩⟩ rfl hn hl rfl (lv_room hr) hdg hf
  intro T hT X
  obtain ⟨v', st₀, t, T', L, h0, X', hL, e1, ⟨hv, hh⟩, hs⟩ := hrun T hT X
  cases hv
  obtain ⟨t2, a1, b1⟩ := kk T' (by rw [e1, hh, h0]) (Stand.forget X' (fun q h => (hL q h).elim))
  exact ⟨t2, hs t2 a1, b1⟩
theorem cRS (C0 : cX p m c cc nL s args own g cl tys) (hM : Rd l y ws rm g cl tys As w v) (cw : CallB R s args own index y bytes maxL ret ws rm 0 0 n ∧ (Cond.static y).before args s = true) (hP : va_P g cl w H) (hl : ls.size = nL) (hn : As.length = n) (hst : st = As.reverse ++ rest) (hr : (rest.map fun v => v.category).sum ≤ 8) (hdg : decode cc pc = .ok (.invokestatic index, 3)) (hf : cells ≤ R.cells ∧ slots ≤ R.slots)
    (kk : W p l e R s m args below meth c H locs cells slots Q (F0 m (pc + 3) ls (v.toList ++ rest))) : W p l e R s m args below meth c H locs cells slots Q (F0 m pc ls st) := by
  obtain ⟨hx, hb, hml, hown, hts, hK⟩ := C0
  subst hst
  have hrun := W.runS (As := As) (rest := rest) (locs := locs) (cells := cells) (slots := slots) (e := e) (below := below) (meth := meth) (g := F0 m pc ls (As.reverse ++ rest)) ⟨hx, hb, hml, hown, hts⟩ hM cw
    ⟨fun a U g mk q => by obtain ⟨q0, qP, qK⟩ := q; exact ⟨q0, qP, kX.same (s := U) (U := U.calling g mk a) rfl qK⟩, fun U hU hW => ⟨rfl, by rw [hU]; exact hP, kX.warm hW hK⟩⟩ rfl hn hl rfl (lv_room hr) hdg hf
  intro T hT X
  obtain ⟨v', st₀, t, T', L, h0, X', hL, e1, ⟨hv, hh⟩, hs⟩ := hrun T hT X
  cases hv
  obtain ⟨t2, a1, b1⟩ := kk T' (by rw [e1, hh, h0]) (Stand.forget X' (fun q h => (hL q h).elim))
  exact ⟨t2, hs t2 a1, b1⟩
/-- what a caller goes on with behind a call of an Mt -/
theorem cM_on {S : Type} {post : Option Value → S → Prop} {w1 : S → va_W} {T : State} {jf : JFrame} (hB : wB g cl A H0 w H locs)
    (hr : CallRun p l e R s m args below meth c H locs cells slots mc ms jf rest (fun st o t => (∃ (v : Option Value) (u : S), o = .returned v ∧ post v u ∧ va_P g cl (w1 u) t.heap ∧ va_D (va_A w H.size) (w1 u)) ∧ va_F (va_A w H.size) st t) (va_A w H.size))
    (kk : ∀ (v : Option Value) (u : S) (H1 : Heap) (locs1 : List Loc), post v u → wB g cl A H0 (w1 u) H1 locs1 → W p l e R s m args below meth c H1 locs1 (cells + mc) (slots + ms) Q { jf with pc := jf.pc + 3, stack := v.toList ++ rest }) : W p l e R s m args below meth c H locs cells slots Q jf := by
  intro T hT X
  have hF := hB.free
  obtain ⟨hP, hD, hS, hA⟩ := hB
  obtain ⟨v', st₀, t, T', L, h0, X', hL, e1, ⟨⟨v, u, hv, hp, hP1, hD1⟩, hF1⟩, hs⟩ := hr T hT X
  cases hv
  subst h0
  have hB1 : wB g cl A H0 (w1 u) t.heap (locs ++ L) := by
    refine ⟨hP1, hD1.weaken (fun _ _ _ h => hF _ h), ⟨Nat.le_trans hS.1 hF1.1, fun q h1 h2 => ?_, fun x hx => ?_⟩, hA⟩
    · rw [hF1.2 q (Nat.lt_of_lt_of_le h1 hS.1) (fun h3 => h2 (hF _ h3))]
      exact hS.2.1 q h1 h2
    · rcases List.mem_append.mp hx with h | h
      · exact hS.2.2 x h
      · exact hF _ (hL x h)
  obtain ⟨t2, a1, b1⟩ := kk _ u t.heap (locs ++ L) hp hB1 T' e1 X'
  exact ⟨t2, hs t2 a1, b1⟩
theorem cM {S : Type} {post : Option Value → S → Prop} {w1 : S → va_W} (C0 : cX p m c cc nL s args own g cl tys) (hM : Mt l y ws rm g cl tys (.ref b :: As) w post w1 mc ms) (cw : CallW R s args own C index y bytes maxL ret ws rm mc ms n) {ci q0 : Nat} {q : vw_C} {fs : List Value} (hc : cl[ci]? = some q) (hq : q.1 = C) (he : w[q0]? = some (b, .inr (ci, fs))) (hB : wB g cl A H0 w H locs) (hl : ls.size = nL) (hn : As.length = n) (hst : st = As.reverse ++ .ref b :: rest) (hr : (rest.map fun v => v.category).sum ≤ 8) (hdg : decode cc pc = .ok (.invokevirtual index, 3)) (hf : cells + mc ≤ R.cells ∧ slots + ms ≤ R.slots)
    (kk : ∀ (v : Option Value) (u : S) (H1 : Heap) (locs1 : List Loc), post v u → wB g cl A H0 (w1 u) H1 locs1 → W p l e R s m args below meth c H1 locs1 (cells + mc) (slots + ms) Q (F0 m (pc + 3) ls (v.toList ++ rest))) : W p l e R s m args below meth c H locs cells slots Q (F0 m pc ls st) := by
  obtain ⟨hx, hb, hml, hown, hts, hK⟩ := C0
  subst hq
  subst hst
  have hrun := W.runV (As := As) (rest := rest) (locs := locs) (cells := cells) (slots := slots) (e := e) (below := below) (meth := meth) (g := F0 m pc ls (As.reverse ++ .ref b :: rest)) ⟨hx, hb, hml, hown, hts⟩ (hM H.size) cw
    ⟨fun a U g mk q => by obtain ⟨q0, q1, qP, qK, qD⟩ := q; exact ⟨q0, q1, qP, kX.same (s := U) (U := U.calling g mk a) rfl qK, qD⟩, va_recv hK.1 hB.1 hc he, fun U hU hW => ⟨rfl, by rw [hU], by rw [hU]; exact hB.1, kX.warm hW hK, hB.2.1.weaken (fun _ _ _ _ => trivial)⟩⟩ rfl hn hl rfl (lv_room hr) hdg hf
  exact cM_on (T := s) hB hrun kk
theorem cMS {S : Type} {post : Option Value → S → Prop} {w1 : S → va_W} (C0 : cX p m c cc nL s args own g cl tys) (hM : Mt l y ws rm g cl tys As w post w1 mc ms) (cw : CallB R s args own index y bytes maxL ret ws rm mc ms n ∧ (Cond.static y).before args s = true) (hB : wB g cl A H0 w H locs) (hl : ls.size = nL) (hn : As.length = n) (hst : st = As.reverse ++ rest) (hr : (rest.map fun v => v.category).sum ≤ 8) (hdg : decode cc pc = .ok (.invokestatic index, 3)) (hf : cells + mc ≤ R.cells ∧ slots + ms ≤ R.slots)
    (kk : ∀ (v : Option Value) (u : S) (H1 : Heap) (locs1 : List Loc), post v u → wB g cl A H0 (w1 u) H1 locs1 → W p l e R s m args below meth c H1 locs1 (cells + mc) (slots + ms) Q (F0 m (pc + 3) ls (v.toList ++ rest))) : W p l e R s m args below meth c H locs cells slots Q (F0 m pc ls st) := by
  obtain ⟨hx, hb, hml, hown, hts, hK⟩ := C0
  subst hst
  have hrun := W.runS (As := As) (rest := rest) (locs := locs) (cells := cells) (slots := slots) (e := e) (below := below) (meth := meth) (g := F0 m pc ls (As.reverse ++ rest)) ⟨hx, hb, hml, hown, hts⟩ (hM H.size) cw
    ⟨fun a U g mk q => by obtain ⟨q0, q1, qP, qK, qD⟩ := q; exact ⟨q0, q1, qP, kX.same (s := U) (U := U.calling g mk a) rfl qK, qD⟩, fun U hU hW => ⟨rfl, by rw [hU], by rw [hU]; exact hB.1, kX.warm hW hK, hB.2.1.weaken (fun _ _ _ _ => trivial)⟩⟩ rfl hn hl rfl (lv_room hr) hdg hf
  exact cM_on (T := s) hB hrun kk
theorem cMI {S : Type} {post : Option Value → S → Prop} {w1 : S → va_W} (C0 : cX p m c cc nL s args own g cl tys) (hM : Mt l y ws rm g cl tys (.ref b :: As) w post w1 mc ms) (cw : CallB R s args own index y bytes maxL none ws rm mc ms n ∧ y.name = "<init>" ∧ (Cond.instanceMethod y).before args s = true) (hB : wB g cl A H0 w H locs) (hl : ls.size = nL) (hn : As.length = n) (hst : st = As.reverse ++ .ref b :: rest) (hr : (rest.map fun v => v.category).sum ≤ 8) (hdg : decode cc pc = .ok (.invokespecial index, 3)) (hf : cells + mc ≤ R.cells ∧ slots + ms ≤ R.slots)
    (kk : ∀ (v : Option Value) (u : S) (H1 : Heap) (locs1 : List Loc), post v u → wB g cl A H0 (w1 u) H1 locs1 → W p l e R s m args below meth c H1 locs1 (cells + mc) (slots + ms) Q (F0 m (pc + 3) ls (v.toList ++ rest))) : W p l e R s m args below meth c H locs cells slots Q (F0 m pc ls st) := by
  obtain ⟨hx, hb, hml, hown, hts, hK⟩ := C0
  subst hst
  have hrun := W.runI (As := As) (rest := rest) (locs := locs) (cells := cells) (slots := slots) (e := e) (below := below) (meth := meth) (g := F0 m pc ls (As.reverse ++ .ref b :: rest)) ⟨hx, hb, hml, hown, hts⟩ (hM H.size) cw
    ⟨fun a U g mk q => by obtain ⟨q0, q1, qP, qK, qD⟩ := q; exact ⟨q0, q1, qP, kX.same (s := U) (U := U.calling g mk a) rfl qK, qD⟩, fun U hU hW => ⟨rfl, by rw [hU], by rw [hU]; exact hB.1, kX.warm hW hK, hB.2.1.weaken (fun _ _ _ _ => trivial)⟩⟩ rfl hn hl rfl (lv_room hr) hdg hf
  exact cM_on (T := s) hB hrun kk
-- ends
theorem eR_i {r : Int32} (C0 : cX p m c cc nL s args own g cl tys) (hr : meth.sig.returnType = some .int) (hlk : meth.locks = false) (hv : v = some (.int r)) (hdg : decode cc pc = .ok (.ireturn, 1)) : W p l e R s m args below meth c s.heap [] 0 0 (MQ below (fun _ st o t => o = .returned v ∧ t.heap = st.heap) args s 0 0 (fun _ => False)) (F0 m pc ls [.int r]) :=
  W.iret C0.1 C0.2.1 hr (fun t ht _ => ⟨by rw [hv], ht⟩) (fun _ h => by cases h) hdg hlk
theorem eR_z {r : Int32} {b : Bool} (C0 : cX p m c cc nL s args own g cl tys) (hr : meth.sig.returnType = some .boolean) (hlk : meth.locks = false) (hb : r = bI b) (hv : v = some (.int (bI b))) (hdg : decode cc pc = .ok (.ireturn, 1)) : W p l e R s m args below meth c s.heap [] 0 0 (MQ below (fun _ st o t => o = .returned v ∧ t.heap = st.heap) args s 0 0 (fun _ => False)) (F0 m pc ls [.int r]) := by
  subst hb
  exact W.zret C0.1 C0.2.1 hr (bI_nar b) (fun t ht _ => ⟨by rw [hv], ht⟩) (fun _ h => by cases h) hdg hlk
theorem eR_l {r : Int64} (C0 : cX p m c cc nL s args own g cl tys) (hr : meth.sig.returnType = some .long) (hlk : meth.locks = false) (hv : v = some (.long r)) (hdg : decode cc pc = .ok (.lreturn, 1)) : W p l e R s m args below meth c s.heap [] 0 0 (MQ below (fun _ st o t => o = .returned v ∧ t.heap = st.heap) args s 0 0 (fun _ => False)) (F0 m pc ls [.long r]) :=
  W.lret C0.1 C0.2.1 hr (fun t ht _ => ⟨by rw [hv], ht⟩) (fun _ h => by cases h) hdg hlk
theorem eR_a {r : Value} {rt : FieldType} (C0 : cX p m c cc nL s args own g cl tys) (hr : meth.sig.returnType = some rt) (hrt : (∃ n, rt = .object n) ∨ ∃ t, rt = .array t) (hlk : meth.locks = false) (hv : v = some r) (hr2 : r = .null ∨ ∃ a, r = .ref a) (hdg : decode cc pc = .ok (.areturn, 1)) : W p l e R s m args below meth c s.heap [] 0 0 (MQ below (fun _ st o t => o = .returned v ∧ t.heap = st.heap) args s 0 0 (fun _ => False)) (F0 m pc ls [r]) :=
  W.aret C0.1 C0.2.1 hr hrt hr2 (fun t ht _ => ⟨by rw [hv], ht⟩) (fun _ h => by cases h) hdg hlk
theorem eM_v {S : Type} {post : Option Value → S → Prop} {w1 : S → va_W} (C0 : cX p m c cc nL s args own g cl tys) (hr : meth.sig.returnType = none) (hlk : meth.locks = false) (u : S) (hB : wB g cl A s.heap (w1 u) H locs) (hp : post none u) (h1 : cells ≤ mc) (h2 : slots ≤ ms) (hdg : decode cc pc = .ok (.return_, 1)) : W p l e R s m args below meth c H locs cells slots (MQ below (fun _ st o t => (∃ (v : Option Value) (u : S), o = .returned v ∧ post v u ∧ va_P g cl (w1 u) t.heap ∧ va_D A (w1 u)) ∧ va_F A st t) args s mc ms A) (F0 m pc ls []) :=
  W.widen h1 h2 (W.vret C0.1 C0.2.1 hr (fun t ht _ => ⟨⟨none, u, rfl, hp, by rw [ht]; exact hB.1, hB.2.1⟩, hB.2.2.1.F ht⟩) hB.2.2.1.2.2 hdg hlk)
theorem eM_i {S : Type} {post : Option Value → S → Prop} {w1 : S → va_W} {r : Int32} (C0 : cX p m c cc nL s args own g cl tys) (hr : meth.sig.returnType = some .int) (hlk : meth.locks = false) (u : S) (hB : wB g cl A s.heap (w1 u) H locs) (hp : post (some (.int r)) u) (h1 : cells ≤ mc) (h2 : slots ≤ ms) (hdg : decode cc pc = .ok (.ireturn, 1)) : W p l e R s m args below meth c H locs cells slots (MQ below (fun _ st o t => (∃ (v : Option Value) (u : S), o = .returned v ∧ post v u ∧ va_P g cl (w1 u) t.heap ∧ va_D A (w1 u)) ∧ va_F A st t) args s mc ms A) (F0 m pc ls [.int r]) :=
  W.widen h1 h2 (W.iret C0.1 C0.2.1 hr (fun t ht _ => ⟨⟨_, u, rfl, hp, by rw [ht]; exact hB.1, hB.2.1⟩, hB.2.2.1.F ht⟩) hB.2.2.1.2.2 hdg hlk)
theorem eM_z {S : Type} {post : Option Value → S → Prop} {w1 : S → va_W} {r : Int32} {b : Bool} (C0 : cX p m c cc nL s args own g cl tys) (hr : meth.sig.returnType = some .boolean) (hlk : meth.locks = false) (u : S) (hb : r = bI b) (hB : wB g cl A s.heap (w1 u) H locs) (hp : post (some (.int (bI b))) u) (h1 : cells ≤ mc) (h2 : slots ≤ ms) (hdg : decode cc pc = .ok (.ireturn, 1)) : W p l e R s m args below meth c H locs cells slots (MQ below (fun _ st o t => (∃ (v : Option Value) (u : S), o = .returned v ∧ post v u ∧ va_P g cl (w1 u) t.heap ∧ va_D A (w1 u)) ∧ va_F A st t) args s mc ms A) (F0 m pc ls [.int r]) := by
  subst hb
  exact W.widen h1 h2 (W.zret C0.1 C0.2.1 hr (bI_nar b) (fun t ht _ => ⟨⟨_, u, rfl, hp, by rw [ht]; exact hB.1, hB.2.1⟩, hB.2.2.1.F ht⟩) hB.2.2.1.2.2 hdg hlk)
theorem eM_a {S : Type} {post : Option Value → S → Prop} {w1 : S → va_W} {r : Value} {rt : FieldType} (C0 : cX p m c cc nL s args own g cl tys) (hr : meth.sig.returnType = some rt) (hrt : (∃ n, rt = .object n) ∨ ∃ t, rt = .array t) (hlk : meth.locks = false) (u : S) (hr2 : r = .null ∨ ∃ a, r = .ref a) (hB : wB g cl A s.heap (w1 u) H locs) (hp : post (some r) u) (h1 : cells ≤ mc) (h2 : slots ≤ ms) (hdg : decode cc pc = .ok (.areturn, 1)) : W p l e R s m args below meth c H locs cells slots (MQ below (fun _ st o t => (∃ (v : Option Value) (u : S), o = .returned v ∧ post v u ∧ va_P g cl (w1 u) t.heap ∧ va_D A (w1 u)) ∧ va_F A st t) args s mc ms A) (F0 m pc ls [r]) :=
  W.widen h1 h2 (W.aret C0.1 C0.2.1 hr hrt hr2 (fun t ht _ => ⟨⟨_, u, rfl, hp, by rw [ht]; exact hB.1, hB.2.1⟩, hB.2.2.1.F ht⟩) hB.2.2.1.2.2 hdg hlk)
end BASE
end
section
/-! ROWS over the base: arrays by natural indices, long compares, bool contents -/
theorem up_nI {f : Nat → Nat} {k v : Nat} : upd (fun j => nI (f j)) k (nI v) = fun j => nI (va_up f k v j) := by
  funext j
  by_cases h : j = k
  · simp [upd, va_up, h]
  · simp [upd, va_up, h]
theorem up_bI {f : Nat → Bool} {k : Nat} {v : Bool} : upd (fun j => bI (f j)) k (bI v) = fun j => bI (va_up f k v j) := by
  funext j
  by_cases h : j = k
  · simp [upd, va_up, h]
  · simp [upd, va_up, h]
theorem up_lN {f : Nat → Nat} {k v : Nat} : vp_updL (fun j => lN (f j)) k (lN v) = fun j => lN (va_up f k v j) := by
  funext j
  by_cases h : j = k
  · simp [vp_updL, va_up, h]
  · simp [vp_updL, va_up, h]
theorem up_32 {f : Nat → Int32} {k : Nat} {v : Int32} : upd f k v = va_up f k v := by
  funext j
  by_cases h : j = k
  · simp [upd, va_up, h]
  · simp [upd, va_up, h]
section ROWS
variable {p : Program} {l : Launch} {e : Env} {R : Room} {s : State} {m : MethodId} {args : Array Value} {below : List Frame} {meth : Method} {c : Code} {H : Heap} {locs : List Loc} {cells slots : Nat} {Q : State → Prop}
variable {cc : ByteArray} {nL pc : Nat} {ls : Array Slot} {rest : List Value} {own : String} {g : va_G} {cl : List vw_C} {tys : List (ClassId × FieldType)} {A : Nat → Prop} {H0 : Heap} {w w' : va_W} {x k N : Nat} {cA : ClassId}
theorem ald_i {f : Nat → Int32} (C0 : cX p m c cc nL s args own g cl tys) (hP : va_P g cl w H) (q0 t0 : Nat) (ha : w[q0]? = some (x, .inl (cA, N, .inl f))) (ht : tys[t0]? = some (cA, .int)) (hk : k < N) (hN : N < 2 ^ 31) (hdg : decode cc pc = .ok (.iaload, 1))
    (kk : W p l e R s m args below meth c H locs cells slots Q (F0 m (pc + 1) ls (.int (f k) :: rest))) : W p l e R s m args below meth c H locs cells slots Q (F0 m pc ls (.int (nI k) :: .ref x :: rest)) := by
  obtain ⟨hx, hb, hml, hown, hts, hK⟩ := C0
  refine va_iald hx hb hK.1 hP q0 t0 ha ht (vp_in_nI hk hN) hdg ?_
  rw [nI_clamp (Nat.lt_trans hk hN)]
  exact kk
theorem ald_z {f : Nat → Int32} (C0 : cX p m c cc nL s args own g cl tys) (hP : va_P g cl w H) (q0 t0 : Nat) (ha : w[q0]? = some (x, .inl (cA, N, .inl f))) (ht : tys[t0]? = some (cA, .boolean)) (hk : k < N) (hN : N < 2 ^ 31) (hdg : decode cc pc = .ok (.baload, 1))
    (kk : W p l e R s m args below meth c H locs cells slots Q (F0 m (pc + 1) ls (.int (f k) :: rest))) : W p l e R s m args below meth c H locs cells slots Q (F0 m pc ls (.int (nI k) :: .ref x :: rest)) := by
  obtain ⟨hx, hb, hml, hown, hts, hK⟩ := C0
  refine va_zald hx hb hK.1 hP q0 t0 ha ht (vp_in_nI hk hN) hdg ?_
  rw [nI_clamp (Nat.lt_trans hk hN)]
  exact kk
theorem ald_l {f : Nat → Int64} (C0 : cX p m c cc nL s args own g cl tys) (hP : va_P g cl w H) (q0 t0 : Nat) (ha : w[q0]? = some (x, .inl (cA, N, .inr (.inl f)))) (ht : tys[t0]? = some (cA, .long)) (hk : k < N) (hN : N < 2 ^ 31) (hdg : decode cc pc = .ok (.laload, 1))
    (kk : W p l e R s m args below meth c H locs cells slots Q (F0 m (pc + 1) ls (.long (f k) :: rest))) : W p l e R s m args below meth c H locs cells slots Q (F0 m pc ls (.int (nI k) :: .ref x :: rest)) := by
  obtain ⟨hx, hb, hml, hown, hts, hK⟩ := C0
  refine va_lald hx hb hK.1 hP q0 t0 ha ht (vp_in_nI hk hN) hdg ?_
  rw [nI_clamp (Nat.lt_trans hk hN)]
  exact kk
theorem ald_q {C : String} {f : Nat → Option Nat} (C0 : cX p m c cc nL s args own g cl tys) (hP : va_P g cl w H) (q0 t0 : Nat) (ha : w[q0]? = some (x, .inl (cA, N, .inr (.inr (.inr (.inr f)))))) (ht : tys[t0]? = some (cA, .object C)) (hk : k < N) (hN : N < 2 ^ 31) (hdg : decode cc pc = .ok (.aaload, 1))
    (kk : W p l e R s m args below meth c H locs cells slots Q (F0 m (pc + 1) ls (va_rf (f k) :: rest))) : W p l e R s m args below meth c H locs cells slots Q (F0 m pc ls (.int (nI k) :: .ref x :: rest)) := by
  obtain ⟨hx, hb, hml, hown, hts, hK⟩ := C0
  refine va_aldq hx hb hK.1 hP q0 t0 ha ht (vp_in_nI hk hN) hdg ?_
  rw [nI_clamp (Nat.lt_trans hk hN)]
  exact kk
theorem alen {a0 : vp_A} {ty : FieldType} {n : Nat} (C0 : cX p m c cc nL s args own g cl tys) (hP : va_P g cl w H) (q0 t0 : Nat) (ha : w[q0]? = some (x, .inl (cA, a0))) (ht : tys[t0]? = some (cA, ty)) (hn : a0.1 = n) (hdg : decode cc pc = .ok (.arraylength, 1))
    (kk : W p l e R s m args below meth c H locs cells slots Q (F0 m (pc + 1) ls (.int (nI n) :: rest))) : W p l e R s m args below meth c H locs cells slots Q (F0 m pc ls (.ref x :: rest)) := by
  obtain ⟨hx, hb, hml, hown, hts, hK⟩ := C0
  subst hn
  exact va_alen hx hb hK.1 hP q0 t0 ha ht rfl hdg kk
theorem ast_i {f f' : Nat → Int32} {v : Int32} (C0 : cX p m c cc nL s args own g cl tys) (hB : wB g cl A H0 w H locs) (q0 t0 : Nat) (ha : w[q0]? = some (x, .inl (cA, N, .inl f))) (ht : tys[t0]? = some (cA, .int)) (hk : k < N) (hN : N < 2 ^ 31) (hf : upd f k v = f') (hw : w.set q0 (x, .inl (cA, N, .inl f')) = w') (hdg : decode cc pc = .ok (.iastore, 1))
    (kk : ∀ (H1 : Heap) (locs1 : List Loc), wB g cl A H0 w' H1 locs1 → W p l e R s m args below meth c H1 locs1 cells slots Q (F0 m (pc + 1) ls rest)) : W p l e R s m args below meth c H locs cells slots Q (F0 m pc ls (.int v :: .int (nI k) :: .ref x :: rest)) := by
  obtain ⟨hx, hb, hml, hown, hts, hK⟩ := C0
  obtain ⟨hP, hD, hS, hA⟩ := hB
  subst hf
  subst hw
  refine va_iast hx hb hK.1 hP hD hS q0 t0 ha ht (vp_in_nI hk hN) hdg (fun H1 locs1 hP1 hD1 hS1 => ?_)
  rw [nI_clamp (Nat.lt_trans hk hN)] at hP1 hD1
  exact kk H1 locs1 ⟨hP1, hD1, hS1, hA⟩
theorem ast_z {f f' : Nat → Int32} {b : Bool} (C0 : cX p m c cc nL s args own g cl tys) (hB : wB g cl A H0 w H locs) (q0 t0 : Nat) (ha : w[q0]? = some (x, .inl (cA, N, .inl f))) (ht : tys[t0]? = some (cA, .boolean)) (hk : k < N) (hN : N < 2 ^ 31) (hf : upd f k (bI b) = f') (hw : w.set q0 (x, .inl (cA, N, .inl f')) = w') (hdg : decode cc pc = .ok (.bastore, 1))
    (kk : ∀ (H1 : Heap) (locs1 : List Loc), wB g cl A H0 w' H1 locs1 → W p l e R s m args below meth c H1 locs1 cells slots Q (F0 m (pc + 1) ls rest)) : W p l e R s m args below meth c H locs cells slots Q (F0 m pc ls (.int (bI b) :: .int (nI k) :: .ref x :: rest)) := by
  obtain ⟨hx, hb, hml, hown, hts, hK⟩ := C0
  obtain ⟨hP, hD, hS, hA⟩ := hB
  subst hf
  subst hw
  refine va_zast hx hb hK.1 hP hD hS q0 t0 ha ht (vp_in_nI hk hN) hdg (fun H1 locs1 hP1 hD1 hS1 => ?_)
  rw [nI_clamp (Nat.lt_trans hk hN), bI_vp] at hP1 hD1
  exact kk H1 locs1 ⟨hP1, hD1, hS1, hA⟩
theorem ast_l {f f' : Nat → Int64} {v : Int64} (C0 : cX p m c cc nL s args own g cl tys) (hB : wB g cl A H0 w H locs) (q0 t0 : Nat) (ha : w[q0]? = some (x, .inl (cA, N, .inr (.inl f)))) (ht : tys[t0]? = some (cA, .long)) (hk : k < N) (hN : N < 2 ^ 31) (hf : vp_updL f k v = f') (hw : w.set q0 (x, .inl (cA, N, .inr (.inl f'))) = w') (hdg : decode cc pc = .ok (.lastore, 1))
    (kk : ∀ (H1 : Heap) (locs1 : List Loc), wB g cl A H0 w' H1 locs1 → W p l e R s m args below meth c H1 locs1 cells slots Q (F0 m (pc + 1) ls rest)) : W p l e R s m args below meth c H locs cells slots Q (F0 m pc ls (.long v :: .int (nI k) :: .ref x :: rest)) := by
  obtain ⟨hx, hb, hml, hown, hts, hK⟩ := C0
  obtain ⟨hP, hD, hS, hA⟩ := hB
  subst hf
  subst hw
  refine va_last hx hb hK.1 hP hD hS q0 t0 ha ht (vp_in_nI hk hN) hdg (fun H1 locs1 hP1 hD1 hS1 => ?_)
  rw [nI_clamp (Nat.lt_trans hk hN)] at hP1 hD1
  exact kk H1 locs1 ⟨hP1, hD1, hS1, hA⟩
theorem ast_q {f f' : Nat → Option Nat} {r : vw_C} {v ci qk : Nat} {vs : List Value} (C0 : cX p m c cc nL s args own g cl tys) (hB : wB g cl A H0 w H locs) (q0 t0 : Nat) (ha : w[q0]? = some (x, .inl (cA, N, .inr (.inr (.inr (.inr f)))))) (ht : tys[t0]? = some (cA, .object r.1)) (hv : w[qk]? = some (v, .inr (ci, vs))) (hc : cl[ci]? = some r) (hk : k < N) (hN : N < 2 ^ 31) (hf : va_up f k (some v) = f') (hw : w.set q0 (x, .inl (cA, N, .inr (.inr (.inr (.inr f'))))) = w') (hdg : decode cc pc = .ok (.aastore, 1))
    (kk : ∀ (H1 : Heap) (locs1 : List Loc), wB g cl A H0 w' H1 locs1 → W p l e R s m args below meth c H1 locs1 cells slots Q (F0 m (pc + 1) ls rest)) : W p l e R s m args below meth c H locs cells slots Q (F0 m pc ls (.ref v :: .int (nI k) :: .ref x :: rest)) := by
  obtain ⟨hx, hb, hml, hown, hts, hK⟩ := C0
  obtain ⟨hP, hD, hS, hA⟩ := hB
  subst hf
  subst hw
  refine va_astq hx hb hK.1 hP hD hS q0 t0 qk ci ha ht hv hc (vp_in_nI hk hN) hdg (fun H1 locs1 hP1 hD1 hS1 => ?_)
  rw [nI_clamp (Nat.lt_trans hk hN)] at hP1 hD1
  exact kk H1 locs1 ⟨hP1, hD1, hS1, hA⟩
/-- newarray: the new cell is the world's last; its array class is the one that the tables know -/
theorem anw {atype : ArrayType} {ty : FieldType} {a0 : vp_A} {n : Nat} (C0 : cX p m c cc nL s args own g cl tys) (hB : wB g cl A H0 w H locs) (t0 : Nat) (ht : tys[t0]? = some (cA, ty)) (hty : newarray.typeOf atype = ty) (hprim : ∀ C, ty ≠ .object C) (harr : Cond.arrayClass (newarray.typeOf atype) ∈ gT) (ha : ∀ cA : ClassId, vp_cell cA a0 = arrV cA n (fun _ => defaultValue ty)) (hn : n < 2 ^ 20) (hby : n * componentBytes ty ≤ 536870912) (hcells : cells + 1 ≤ R.cells) (hslots : slots + n ≤ R.slots) (hdg : decode cc pc = .ok (.newarray atype, 2))
    (kk : ∀ (q : Nat) (H1 : Heap), wB g cl A H0 (w ++ [(q, .inl (cA, a0))]) H1 locs → W p l e R s m args below meth c H1 locs (cells + 1) (slots + n) Q (F0 m (pc + 2) ls (.ref q :: rest))) : W p l e R s m args below meth c H locs cells slots Q (F0 m pc ls (.int (nI n) :: rest)) := by
  obtain ⟨hx, hb, hml, hown, hts, hK⟩ := C0
  obtain ⟨hP, hD, hS, hA⟩ := hB
  have hn31 : n < 2 ^ 31 := Nat.lt_trans hn (by decide)
  refine va_newa hx hb (hts _ harr) hty hK.1 hP hD hS hA ha (nI_pos hn31) (nI_clamp hn31) hby hcells hslots hdg (fun q cB H1 hK1 hP1 hD1 hS1 => ?_)
  have e : cB = cA := by
    have h1 := (hK1.2 tys.length (cB, ty) (by simp)).2
    have h2 := (hK.1.2 t0 (cA, ty) ht).2
    subst hty
    cases atype <;> exact Option.some.inj (h1.symm.trans h2)
  subst e
  exact kk q H1 ⟨hP1, hD1, hS1, hA⟩
end ROWS
end
section
/-! BELLMAN-FORD over arcs that are numbered 0 .. k-1: af (from), tt (to), ac (cost). A walk is a row of arc numbers. -/
abbrev bf_far : Nat := 9223372036854775807
def bf_walk (k : Nat) (af tt : Nat → Nat) (t : Nat) : Nat → List Nat → Prop
  | v, [] => v = t
  | v, j :: r => j < k ∧ af j = v ∧ bf_walk k af tt t (tt j) r
def bf_cost (ac : Nat → Nat) : List Nat → Nat
  | [] => 0
  | j :: r => ac j + bf_cost ac r
/-- the costs behind the first i arcs of one pass -/
def bf_it (af tt ac : Nat → Nat) (c0 : Nat → Nat) : Nat → Nat → Nat
  | 0 => c0
  | i + 1 => if bf_it af tt ac c0 i (tt i) ≠ bf_far ∧ bf_it af tt ac c0 i (tt i) + ac i < bf_it af tt ac c0 i (af i) then va_up (bf_it af tt ac c0 i) (af i) (bf_it af tt ac c0 i (tt i) + ac i) else bf_it af tt ac c0 i
/-- whether one of the first i arcs changed something -/
def bf_ch (af tt ac : Nat → Nat) (c0 : Nat → Nat) : Nat → Bool
  | 0 => false
  | i + 1 => bf_ch af tt ac c0 i || decide (bf_it af tt ac c0 i (tt i) ≠ bf_far ∧ bf_it af tt ac c0 i (tt i) + ac i < bf_it af tt ac c0 i (af i))
section BF
variable {k t : Nat} {af tt ac : Nat → Nat}
theorem bf_mono (c0 : Nat → Nat) : ∀ i v, bf_it af tt ac c0 i v ≤ c0 v
  | 0, v => Nat.le_refl _
  | i + 1, v => by
    have ih := bf_mono c0 i v
    unfold bf_it
    split
    · rename_i h
      by_cases hv : v = af i
      · subst hv
        rw [va_up_self]
        omega
      · rw [va_up_ne _ _ hv]
        exact ih
    · exact ih
theorem bf_le_far {c0 : Nat → Nat} (h : ∀ v, c0 v ≤ bf_far) (i v : Nat) : bf_it af tt ac c0 i v ≤ bf_far := Nat.le_trans (bf_mono c0 i v) (h v)
theorem bf_relaxed {c0 : Nat → Nat} (h : ∀ v, c0 v ≤ bf_far) : ∀ i j, j < i → c0 (tt j) ≠ bf_far → bf_it af tt ac c0 i (af j) ≤ c0 (tt j) + ac j
  | 0, j, hj, _ => absurd hj (Nat.not_lt_zero _)
  | i + 1, j, hj, hne => by
    have hs : ∀ v, bf_it af tt ac c0 (i + 1) v ≤ bf_it af tt ac c0 i v := by
      intro v
      conv => lhs; unfold bf_it
      split
      · rename_i h2
        by_cases hv : v = af i
        · subst hv
          rw [va_up_self]
          omega
        · rw [va_up_ne _ _ hv]
          exact Nat.le_refl _
      · exact Nat.le_refl _
    rcases Nat.lt_succ_iff_lt_or_eq.mp hj with h1 | h1
    · exact Nat.le_trans (hs _) (bf_relaxed h i j h1 hne)
    · subst h1
      have hm := bf_mono (af := af) (tt := tt) (ac := ac) c0 j (tt j)
      have hf := h (tt j)
      unfold bf_it
      split
      · rw [va_up_self]
        omega
      · rename_i h2
        have : bf_it af tt ac c0 j (tt j) ≠ bf_far := by omega
        have h3 : ¬ bf_it af tt ac c0 j (tt j) + ac j < bf_it af tt ac c0 j (af j) := fun q => h2 ⟨this, q⟩
        omega
theorem bf_still {c0 : Nat → Nat} : ∀ i, bf_ch af tt ac c0 i = false → bf_it af tt ac c0 i = c0 ∧ ∀ j, j < i → c0 (tt j) ≠ bf_far → c0 (af j) ≤ c0 (tt j) + ac j
  | 0, _ => ⟨rfl, fun j hj => absurd hj (Nat.not_lt_zero _)⟩
  | i + 1, h => by
    unfold bf_ch at h
    rw [Bool.or_eq_false_iff] at h
    obtain ⟨h1, h2⟩ := h
    obtain ⟨e1, e2⟩ := bf_still i h1
    rw [e1] at h2
    have h2 := of_decide_eq_false h2
    refine ⟨?_, ?_⟩
    · unfold bf_it
      rw [e1, if_neg h2]
    · intro j hj hne
      rcases Nat.lt_succ_iff_lt_or_eq.mp hj with h3 | h3
      · exact e2 j h3 hne
      · subst h3
        have h4 : ¬ c0 (tt j) + ac j < c0 (af j) := fun q => h2 ⟨hne, q⟩
        omega
/-- finite costs are costs of walks -/
def bf_snd (k : Nat) (af tt ac : Nat → Nat) (t : Nat) (c : Nat → Nat) : Prop := ∀ v, c v ≠ bf_far → ∃ w, bf_walk k af tt t v w ∧ bf_cost ac w = c v
theorem bf_snd_it {c0 : Nat → Nat} (h : bf_snd k af tt ac t c0) : ∀ i, i ≤ k → bf_snd k af tt ac t (bf_it af tt ac c0 i)
  | 0, _ => h
  | i + 1, hi => by
    have ih := bf_snd_it h i (by omega)
    intro v hv
    unfold bf_it at hv ⊢
    split
    · rename_i h1
      rw [if_pos h1] at hv
      by_cases hv2 : v = af i
      · subst hv2
        rw [va_up_self]
        obtain ⟨w, h2, h3⟩ := ih _ h1.1
        exact ⟨i :: w, ⟨by omega, rfl, h2⟩, by show ac i + bf_cost ac w = _; omega⟩
      · rw [va_up_ne _ _ hv2] at hv ⊢
        exact ih v hv
    · rename_i h1
      rw [if_neg h1] at hv
      exact ih v hv
/-- finite costs are small -/
def bf_bd (M : Nat) (c : Nat → Nat) : Prop := ∀ v, c v = bf_far ∨ c v ≤ M
theorem bf_bd_it {c0 : Nat → Nat} {M B : Nat} (h : bf_bd M c0) (hB : ∀ j, j < k → ac j ≤ B) : ∀ i, i ≤ k → bf_bd (M + i * B) (bf_it af tt ac c0 i)
  | 0, _ => fun v => by
    rcases h v with h1 | h1
    · exact Or.inl h1
    · exact Or.inr (by show c0 v ≤ _; omega)
  | i + 1, hi => by
    have ih := bf_bd_it h hB i (by omega)
    have hb := hB i (by omega)
    have e : M + (i + 1) * B = M + i * B + B := by rw [Nat.succ_mul]; omega
    rw [e]
    intro v
    unfold bf_it
    split
    · rename_i h1
      by_cases hv2 : v = af i
      · subst hv2
        rw [va_up_self]
        rcases ih (tt i) with h2 | h2
        · exact absurd h2 h1.1
        · exact Or.inr (by omega)
      · rw [va_up_ne _ _ hv2]
        rcases ih v with h2 | h2
        · exact Or.inl h2
        · exact Or.inr (by omega)
    · rcases ih v with h2 | h2
      · exact Or.inl h2
      · exact Or.inr (by omega)
theorem bf_cost_le {B : Nat} (hB : ∀ j, j < k → ac j ≤ B) : ∀ (w : List Nat) (v : Nat), bf_walk k af tt t v w → bf_cost ac w ≤ w.length * B
  | [], _, _ => Nat.zero_le _
  | j :: r, v, h => by
    have ih := bf_cost_le hB r _ h.2.2
    have := hB j h.1
    show ac j + bf_cost ac r ≤ (r.length + 1) * B
    rw [Nat.succ_mul]
    omega
/-- r passes: no walk of at most r arcs is cheaper -/
def bf_cmp (k : Nat) (af tt ac : Nat → Nat) (t r : Nat) (c : Nat → Nat) : Prop := ∀ v w, bf_walk k af tt t v w → w.length ≤ r → c v ≤ bf_cost ac w
theorem bf_cmp_pass {c0 : Nat → Nat} {B r : Nat} (hf : ∀ v, c0 v ≤ bf_far) (hB : ∀ j, j < k → ac j ≤ B) (hr : r * B < bf_far) (h : bf_cmp k af tt ac t r c0) : bf_cmp k af tt ac t (r + 1) (bf_it af tt ac c0 k) := by
  intro v w hw hl
  cases w with
  | nil => exact Nat.le_trans (bf_mono c0 k v) (h v [] hw (Nat.zero_le _))
  | cons j w' =>
    obtain ⟨h1, h2, h3⟩ := hw
    have hl' : w'.length ≤ r := by simpa using hl
    have h4 := h _ w' h3 hl'
    have h5 := bf_cost_le hB w' _ h3
    have h6 : w'.length * B ≤ r * B := Nat.mul_le_mul_right B hl'
    have h7 := bf_relaxed (af := af) (tt := tt) (ac := ac) hf k j h1 (by omega)
    subst h2
    show _ ≤ ac j + bf_cost ac w'
    omega
theorem bf_fix {c0 : Nat → Nat} (hf : ∀ v, c0 v ≤ bf_far) (ht : c0 t = 0) (h : ∀ j, j < k → c0 (tt j) ≠ bf_far → c0 (af j) ≤ c0 (tt j) + ac j) : ∀ (w : List Nat) (v : Nat), bf_walk k af tt t v w → c0 v ≤ bf_cost ac w
  | [], v, hw => by
    have e : v = t := hw
    rw [e, ht]
    exact Nat.zero_le _
  | j :: r, v, hw => by
    obtain ⟨h1, h2, h3⟩ := hw
    have ih := bf_fix hf ht h r _ h3
    subst h2
    show _ ≤ ac j + bf_cost ac r
    by_cases hn : c0 (tt j) = bf_far
    · have := hf (af j)
      omega
    · have := h j h1 hn
      omega
/-- the things on a walk -/
def bf_nodes (tt : Nat → Nat) (v : Nat) (w : List Nat) : List Nat := v :: w.map tt
theorem bf_suffix : ∀ (w : List Nat) (v u : Nat), bf_walk k af tt t v w → u ∈ bf_nodes tt v w → ∃ w', bf_walk k af tt t u w' ∧ bf_cost ac w' ≤ bf_cost ac w
  | [], v, u, hw, hu => by
    have e : u = v := by simpa [bf_nodes] using hu
    subst e
    exact ⟨[], hw, Nat.le_refl _⟩
  | j :: r, v, u, hw, hu => by
    rcases List.mem_cons.mp hu with e | h1
    · subst e
      exact ⟨j :: r, hw, Nat.le_refl _⟩
    · obtain ⟨w', h2, h3⟩ := bf_suffix r (tt j) u hw.2.2 h1
      exact ⟨w', h2, by show _ ≤ ac j + bf_cost ac r; omega⟩
/-- a cheapest walk -/
def bf_min (k : Nat) (af tt ac : Nat → Nat) (t v : Nat) (w : List Nat) : Prop := bf_walk k af tt t v w ∧ ∀ w', bf_walk k af tt t v w' → bf_cost ac w ≤ bf_cost ac w'
theorem bf_min_ex {v : Nat} (h : ∃ w, bf_walk k af tt t v w) : ∃ w, bf_min k af tt ac t v w := by
  obtain ⟨w0, h0⟩ := h
  obtain ⟨n, ⟨w, h1, h2⟩, h3⟩ := pk_least (fun n => ∃ w, bf_walk k af tt t v w ∧ bf_cost ac w = n) ⟨_, w0, h0, rfl⟩
  refine ⟨w, h1, fun w' h4 => ?_⟩
  rcases Nat.lt_or_ge (bf_cost ac w') (bf_cost ac w) with h5 | h5
  · exact absurd ⟨w', h4, rfl⟩ (h3 _ (by omega))
  · exact h5
theorem bf_min_tail {v j : Nat} {r : List Nat} (h : bf_min k af tt ac t v (j :: r)) : bf_min k af tt ac t (tt j) r := by
  refine ⟨h.1.2.2, fun w' h1 => ?_⟩
  have h2 := h.2 (j :: w') ⟨h.1.1, h.1.2.1, h1⟩
  have h3 : ac j + bf_cost ac r ≤ ac j + bf_cost ac w' := h2
  omega
theorem bf_min_nodup (hp : ∀ j, j < k → 0 < ac j) : ∀ (w : List Nat) (v : Nat), bf_min k af tt ac t v w → (bf_nodes tt v w).Nodup
  | [], v, _ => by simp [bf_nodes]
  | j :: r, v, h => by
    have ih := bf_min_nodup hp r _ (bf_min_tail h)
    show (v :: bf_nodes tt (tt j) r).Nodup
    refine List.nodup_cons.mpr ⟨fun hm => ?_, ih⟩
    obtain ⟨w', h1, h2⟩ := bf_suffix (ac := ac) r (tt j) v h.1.2.2 hm
    have h3 := h.2 w' h1
    have h4 : ac j + bf_cost ac r ≤ bf_cost ac w' := h3
    have := hp j h.1.1
    omega
/-- different numbers below n are at most n -/
theorem bf_pigeon : ∀ (n : Nat) (l : List Nat), l.Nodup → (∀ x ∈ l, x < n) → l.length ≤ n
  | 0, l, _, h => by
    cases l with
    | nil => exact Nat.le_refl _
    | cons a r => exact absurd (h a List.mem_cons_self) (Nat.not_lt_zero _)
  | n + 1, l, hd, h => by
    by_cases hn : n ∈ l
    · have h1 : (l.erase n).length = l.length - 1 := List.length_erase_of_mem hn
      have h2 : (l.erase n).Nodup := hd.erase n
      have h3 := bf_pigeon n (l.erase n) h2 (fun x hx => by
        have h4 := (hd.mem_erase_iff).mp hx
        have h5 := h x h4.2
        omega)
      omega
    · have h3 := bf_pigeon n l hd (fun x hx => by
        have h5 := h x hx
        have h6 : x ≠ n := fun e => hn (e ▸ hx)
        omega)
      omega
theorem bf_min_len {n v : Nat} {w : List Nat} (hp : ∀ j, j < k → 0 < ac j) (hn : ∀ j, j < k → tt j < n) (hv : v < n) (h : bf_min k af tt ac t v w) : w.length < n := by
  have h1 := bf_min_nodup hp w v h
  have hx : ∀ (w : List Nat) (v : Nat), v < n → bf_walk k af tt t v w → ∀ x ∈ bf_nodes tt v w, x < n := by
    intro w
    induction w with
    | nil =>
      intro v hv _ x hx
      have e : x = v := by simpa [bf_nodes] using hx
      rw [e]
      exact hv
    | cons j r ih =>
      intro v hv hw x hx
      rcases List.mem_cons.mp hx with e | h2
      · rw [e]; exact hv
      · exact ih (tt j) (hn j hw.1) hw.2.2 x h2
  have h2 := bf_pigeon n _ h1 (hx w v hv h.1)
  simp [bf_nodes] at h2
  omega
/-- EXACT costs: none is above far, a finite one is a walk's, no walk is cheaper -/
def bf_ex (k : Nat) (af tt ac : Nat → Nat) (t : Nat) (c : Nat → Nat) : Prop := (∀ v, c v ≤ bf_far) ∧ bf_snd k af tt ac t c ∧ ∀ v w, bf_walk k af tt t v w → c v ≤ bf_cost ac w
theorem bf_ex_fix {c : Nat → Nat} (hf : ∀ v, c v ≤ bf_far) (hs : bf_snd k af tt ac t c) (ht : c t = 0) (hc : bf_ch af tt ac c k = false) : bf_ex k af tt ac t c :=
  ⟨hf, hs, fun v w hw => bf_fix hf ht (bf_still k hc).2 w v hw⟩
theorem bf_ex_cmp {c : Nat → Nat} {n : Nat} (hf : ∀ v, c v ≤ bf_far) (hs : bf_snd k af tt ac t c) (hp : ∀ j, j < k → 0 < ac j) (hn : ∀ j, j < k → af j < n ∧ tt j < n) (htn : t < n) (hc : bf_cmp k af tt ac t n c) : bf_ex k af tt ac t c := by
  refine ⟨hf, hs, fun v w hw => ?_⟩
  obtain ⟨w0, h0⟩ := bf_min_ex (ac := ac) ⟨w, hw⟩
  have hv : v < n := by
    cases w with
    | nil => have e : v = t := hw; rw [e]; exact htn
    | cons j r => rw [← hw.2.1]; exact (hn j hw.1).1
  have h1 := bf_min_len hp (fun j h => (hn j h).2) hv h0
  exact Nat.le_trans (hc v w0 h0.1 (by omega)) (h0.2 w hw)
/-- an arc that is tight: it is on a cheapest walk from its beginning -/
def bf_tight (af tt ac c : Nat → Nat) (v j : Nat) : Prop := af j = v ∧ c (tt j) ≠ bf_far ∧ c (tt j) + ac j = c v
theorem bf_tight_ex {c : Nat → Nat} {v : Nat} (h : bf_ex k af tt ac t c) (hv : v ≠ t) (hc : c v ≠ bf_far) : ∃ j, j < k ∧ bf_tight af tt ac c v j := by
  obtain ⟨hf, hs, hm⟩ := h
  obtain ⟨w, hw, he⟩ := hs v hc
  cases w with
  | nil => exact absurd hw hv
  | cons j r =>
    have h1 := hm _ r hw.2.2
    have h2 : ac j + bf_cost ac r = c v := he
    have h3 := hf v
    have h4 : c (tt j) ≠ bf_far := by omega
    obtain ⟨w2, hw2, he2⟩ := hs _ h4
    have h5 := hm v (j :: w2) ⟨hw.1, hw.2.1, hw2⟩
    have h6 : c v ≤ ac j + bf_cost ac w2 := h5
    exact ⟨j, hw.1, hw.2.1, h4, by omega⟩
/-- a walk by tight arcs -/
def bf_tw (k : Nat) (af tt ac c : Nat → Nat) (t : Nat) : Nat → List Nat → Prop
  | v, [] => v = t
  | v, j :: r => j < k ∧ bf_tight af tt ac c v j ∧ bf_tw k af tt ac c t (tt j) r
theorem bf_tw_walk {c : Nat → Nat} : ∀ (w : List Nat) (v : Nat), bf_tw k af tt ac c t v w → bf_walk k af tt t v w
  | [], _, h => h
  | _ :: r, _, h => ⟨h.1, h.2.1.1, bf_tw_walk r _ h.2.2⟩
theorem bf_tw_cost {c : Nat → Nat} (ht : c t = 0) : ∀ (w : List Nat) (v : Nat), bf_tw k af tt ac c t v w → bf_cost ac w = c v
  | [], v, h => by
    have e : v = t := h
    rw [e, ht]
    rfl
  | j :: r, v, h => by
    have ih := bf_tw_cost ht r _ h.2.2
    have := h.2.1.2.2
    show ac j + bf_cost ac r = c v
    omega
theorem bf_tw_of {c : Nat → Nat} (h : bf_ex k af tt ac t c) : ∀ (w : List Nat) (v : Nat), bf_walk k af tt t v w → bf_cost ac w ≤ c v → c v ≠ bf_far → bf_tw k af tt ac c t v w
  | [], _, hw, _, _ => hw
  | j :: r, v, hw, hl, hc => by
    obtain ⟨hf, hs, hm⟩ := id h
    have h1 := hm _ r hw.2.2
    have h2 : ac j + bf_cost ac r ≤ c v := hl
    have h3 := hf v
    have h4 : c (tt j) ≠ bf_far := by omega
    obtain ⟨w2, hw2, he2⟩ := hs _ h4
    have h5 := hm v (j :: w2) ⟨hw.1, hw.2.1, hw2⟩
    have h6 : c v ≤ ac j + bf_cost ac w2 := h5
    exact ⟨hw.1, ⟨hw.2.1, h4, by omega⟩, bf_tw_of h r _ hw.2.2 (by omega) h4⟩
end BF
end
section
/-! NAMES, printed by wip/gen/names.py out of the task: classes, fields, methods, words of the tables -/
def R_WS : String := "WaySearch"
def R_TH : String := "WaySearch$Things"
def R_PI : String := "WaySearch$Pipes"
def R_SE : String := "WaySearch$Search"
def R_FW : String := "WaySearch$FoundWay"
def R_MO : String := "WaySearchModel"
def R_LW : String := "WaySearchLaw"
def R_AR : String := "java/util/Arrays"
def R_MA : String := "java/lang/Math"
def R_SY : String := "java/lang/System"
def R_OB : String := "java/lang/Object"
def F_WS : u_T := fun k => match k with
  | 0 => ("WaySearch", "things", "LWaySearch$Things;", true)
  | 1 => ("WaySearch", "pipes", "LWaySearch$Pipes;", true)
  | 2 => ("WaySearch", "search", "LWaySearch$Search;", true)
  | 3 => ("WaySearch", "ways", "[LWaySearch$FoundWay;", true)
  | _ => ("WaySearch", "wayCount", "I", false)
def t_WS : Nat → FieldType := fun k => match k with
  | 0 => (.object "WaySearch$Things")
  | 1 => (.object "WaySearch$Pipes")
  | 2 => (.object "WaySearch$Search")
  | 3 => (.array (.object "WaySearch$FoundWay"))
  | _ => .int
theorem n_WS : ∀ a, a < 5 → ∀ b, b < 5 → a ≠ b → (F_WS a).2.1 ≠ (F_WS b).2.1 := by decide +kernel
theorem t_WS_ok : ∀ k, k < 5 → parseFieldDescriptor (F_WS k).2.2.1 = some (t_WS k) := by decide +kernel
theorem iw_WS : ∀ w ∈ u_ws R_WS F_WS 5, w ∈ gT := by decide +kernel
def F_TH : u_T := fun k => match k with
  | 0 => ("WaySearch$Things", "kind", "[I", true)
  | 1 => ("WaySearch$Things", "empty", "[Z", true)
  | 2 => ("WaySearch$Things", "barred", "[Z", true)
  | 3 => ("WaySearch$Things", "in", "[I", true)
  | 4 => ("WaySearch$Things", "out", "[I", true)
  | _ => ("WaySearch$Things", "count", "I", false)
def t_TH : Nat → FieldType := fun k => match k with
  | 0 => (.array .int)
  | 1 => (.array .boolean)
  | 2 => (.array .boolean)
  | 3 => (.array .int)
  | 4 => (.array .int)
  | _ => .int
theorem n_TH : ∀ a, a < 6 → ∀ b, b < 6 → a ≠ b → (F_TH a).2.1 ≠ (F_TH b).2.1 := by decide +kernel
theorem t_TH_ok : ∀ k, k < 6 → parseFieldDescriptor (F_TH k).2.2.1 = some (t_TH k) := by decide +kernel
theorem iw_TH : ∀ w ∈ u_ws R_TH F_TH 6, w ∈ gT := by decide +kernel
def F_PI : u_T := fun k => match k with
  | 0 => ("WaySearch$Pipes", "endA", "[I", true)
  | 1 => ("WaySearch$Pipes", "endB", "[I", true)
  | 2 => ("WaySearch$Pipes", "litres", "[J", true)
  | 3 => ("WaySearch$Pipes", "runs", "[Z", true)
  | _ => ("WaySearch$Pipes", "count", "I", false)
def t_PI : Nat → FieldType := fun k => match k with
  | 0 => (.array .int)
  | 1 => (.array .int)
  | 2 => (.array .long)
  | 3 => (.array .boolean)
  | _ => .int
theorem n_PI : ∀ a, a < 5 → ∀ b, b < 5 → a ≠ b → (F_PI a).2.1 ≠ (F_PI b).2.1 := by decide +kernel
theorem t_PI_ok : ∀ k, k < 5 → parseFieldDescriptor (F_PI k).2.2.1 = some (t_PI k) := by decide +kernel
theorem iw_PI : ∀ w ∈ u_ws R_PI F_PI 5, w ∈ gT := by decide +kernel
def F_SE : u_T := fun k => match k with
  | 0 => ("WaySearch$Search", "things", "LWaySearch$Things;", true)
  | 1 => ("WaySearch$Search", "pipes", "LWaySearch$Pipes;", true)
  | 2 => ("WaySearch$Search", "thingIsShut", "[Z", true)
  | 3 => ("WaySearch$Search", "pipeIsShut", "[Z", true)
  | 4 => ("WaySearch$Search", "arcPipe", "[I", true)
  | 5 => ("WaySearch$Search", "arcFrom", "[I", true)
  | 6 => ("WaySearch$Search", "arcTo", "[I", true)
  | 7 => ("WaySearch$Search", "arcCost", "[J", true)
  | 8 => ("WaySearch$Search", "arcCount", "I", false)
  | 9 => ("WaySearch$Search", "costToEnd", "[J", true)
  | 10 => ("WaySearch$Search", "rowPipes", "[I", true)
  | _ => ("WaySearch$Search", "rowThings", "[I", true)
def t_SE : Nat → FieldType := fun k => match k with
  | 0 => (.object "WaySearch$Things")
  | 1 => (.object "WaySearch$Pipes")
  | 2 => (.array .boolean)
  | 3 => (.array .boolean)
  | 4 => (.array .int)
  | 5 => (.array .int)
  | 6 => (.array .int)
  | 7 => (.array .long)
  | 8 => .int
  | 9 => (.array .long)
  | 10 => (.array .int)
  | _ => (.array .int)
theorem n_SE : ∀ a, a < 12 → ∀ b, b < 12 → a ≠ b → (F_SE a).2.1 ≠ (F_SE b).2.1 := by decide +kernel
theorem t_SE_ok : ∀ k, k < 12 → parseFieldDescriptor (F_SE k).2.2.1 = some (t_SE k) := by decide +kernel
theorem iw_SE : ∀ w ∈ u_ws R_SE F_SE 12, w ∈ gT := by decide +kernel
def F_FW : u_T := fun k => match k with
  | 0 => ("WaySearch$FoundWay", "from", "I", true)
  | 1 => ("WaySearch$FoundWay", "to", "I", true)
  | 2 => ("WaySearch$FoundWay", "litres", "J", true)
  | 3 => ("WaySearch$FoundWay", "pipes", "[I", true)
  | _ => ("WaySearch$FoundWay", "things", "[I", true)
def t_FW : Nat → FieldType := fun k => match k with
  | 0 => .int
  | 1 => .int
  | 2 => .long
  | 3 => (.array .int)
  | _ => (.array .int)
theorem n_FW : ∀ a, a < 5 → ∀ b, b < 5 → a ≠ b → (F_FW a).2.1 ≠ (F_FW b).2.1 := by decide +kernel
theorem t_FW_ok : ∀ k, k < 5 → parseFieldDescriptor (F_FW k).2.2.1 = some (t_FW k) := by decide +kernel
theorem iw_FW : ∀ w ∈ u_ws R_FW F_FW 5, w ∈ gT := by decide +kernel
def F_MO : u_T := fun k => match k with
  | 0 => ("WaySearchModel", "kind", "[I", true)
  | 1 => ("WaySearchModel", "empty", "[Z", true)
  | 2 => ("WaySearchModel", "barred", "[Z", true)
  | 3 => ("WaySearchModel", "in", "[I", true)
  | 4 => ("WaySearchModel", "out", "[I", true)
  | 5 => ("WaySearchModel", "things", "I", false)
  | 6 => ("WaySearchModel", "endA", "[I", true)
  | 7 => ("WaySearchModel", "endB", "[I", true)
  | 8 => ("WaySearchModel", "litres", "[J", true)
  | 9 => ("WaySearchModel", "runs", "[Z", true)
  | 10 => ("WaySearchModel", "pipes", "I", false)
  | 11 => ("WaySearchModel", "wayPipes", "[I", true)
  | 12 => ("WaySearchModel", "wayLength", "[I", true)
  | 13 => ("WaySearchModel", "wayFrom", "[I", true)
  | 14 => ("WaySearchModel", "wayTo", "[I", true)
  | 15 => ("WaySearchModel", "ways", "I", false)
  | 16 => ("WaySearchModel", "cost", "[J", true)
  | 17 => ("WaySearchModel", "shutThing", "[Z", true)
  | 18 => ("WaySearchModel", "shutPipe", "[Z", true)
  | 19 => ("WaySearchModel", "savedA", "[I", true)
  | _ => ("WaySearchModel", "savedB", "[I", true)
def t_MO : Nat → FieldType := fun k => match k with
  | 0 => (.array .int)
  | 1 => (.array .boolean)
  | 2 => (.array .boolean)
  | 3 => (.array .int)
  | 4 => (.array .int)
  | 5 => .int
  | 6 => (.array .int)
  | 7 => (.array .int)
  | 8 => (.array .long)
  | 9 => (.array .boolean)
  | 10 => .int
  | 11 => (.array .int)
  | 12 => (.array .int)
  | 13 => (.array .int)
  | 14 => (.array .int)
  | 15 => .int
  | 16 => (.array .long)
  | 17 => (.array .boolean)
  | 18 => (.array .boolean)
  | 19 => (.array .int)
  | _ => (.array .int)
theorem n_MO : ∀ a, a < 21 → ∀ b, b < 21 → a ≠ b → (F_MO a).2.1 ≠ (F_MO b).2.1 := by decide +kernel
theorem t_MO_ok : ∀ k, k < 21 → parseFieldDescriptor (F_MO k).2.2.1 = some (t_MO k) := by decide +kernel
theorem iw_MO : ∀ w ∈ u_ws R_MO F_MO 21, w ∈ gT := by decide +kernel
abbrev classes : List vw_C := [(R_WS, F_WS, 5), (R_TH, F_TH, 6), (R_PI, F_PI, 5), (R_SE, F_SE, 12), (R_FW, F_FW, 5), (R_MO, F_MO, 21)]
abbrev b_WS_init : ByteArray := prog_1_method_1_code
def y_WS_init : MethodName := ⟨R_WS, "<init>", "()V"⟩
abbrev w_WS_init : List Cond := gW y_WS_init b_WS_init 1 none
theorem m_WS_init : Cond.code y_WS_init b_WS_init 1 none ∈ gT := gT_in (List.mem_of_getElem? (i := 33) (by decide +kernel)) (by decide +kernel)
abbrev b_TH_init : ByteArray := prog_5_method_1_code
def y_TH_init : MethodName := ⟨R_TH, "<init>", "()V"⟩
abbrev w_TH_init : List Cond := gW y_TH_init b_TH_init 1 none
theorem m_TH_init : Cond.code y_TH_init b_TH_init 1 none ∈ gT := gT_in (List.mem_of_getElem? (i := 41) (by decide +kernel)) (by decide +kernel)
abbrev b_PI_init : ByteArray := prog_3_method_1_code
def y_PI_init : MethodName := ⟨R_PI, "<init>", "()V"⟩
abbrev w_PI_init : List Cond := gW y_PI_init b_PI_init 1 none
theorem m_PI_init : Cond.code y_PI_init b_PI_init 1 none ∈ gT := gT_in (List.mem_of_getElem? (i := 76) (by decide +kernel)) (by decide +kernel)
abbrev b_SE_init : ByteArray := prog_4_method_1_code
def y_SE_init : MethodName := ⟨R_SE, "<init>", "(LWaySearch$Things;LWaySearch$Pipes;)V"⟩
abbrev w_SE_init : List Cond := gW y_SE_init b_SE_init 3 none
theorem m_SE_init : Cond.code y_SE_init b_SE_init 3 none ∈ gT := gT_in (List.mem_of_getElem? (i := 106) (by decide +kernel)) (by decide +kernel)
abbrev b_WS_tank : ByteArray := prog_1_method_2_code
def y_WS_tank : MethodName := ⟨R_WS, "tank", "(Z)I"⟩
abbrev w_WS_tank : List Cond := gW y_WS_tank b_WS_tank 2 (some .int)
theorem m_WS_tank : Cond.code y_WS_tank b_WS_tank 2 (some .int) ∈ gT := gT_in (List.mem_of_getElem? (i := 166) (by decide +kernel)) (by decide +kernel)
abbrev b_TH_add : ByteArray := prog_5_method_2_code
def y_TH_add : MethodName := ⟨R_TH, "add", "(IZ)I"⟩
abbrev w_TH_add : List Cond := gW y_TH_add b_TH_add 3 (some .int)
theorem m_TH_add : Cond.code y_TH_add b_TH_add 3 (some .int) ∈ gT := gT_in (List.mem_of_getElem? (i := 170) (by decide +kernel)) (by decide +kernel)
abbrev b_WS_pump : ByteArray := prog_1_method_3_code
def y_WS_pump : MethodName := ⟨R_WS, "pump", "()I"⟩
abbrev w_WS_pump : List Cond := gW y_WS_pump b_WS_pump 1 (some .int)
theorem m_WS_pump : Cond.code y_WS_pump b_WS_pump 1 (some .int) ∈ gT := gT_in (List.mem_of_getElem? (i := 174) (by decide +kernel)) (by decide +kernel)
abbrev b_WS_valve : ByteArray := prog_1_method_4_code
def y_WS_valve : MethodName := ⟨R_WS, "valve", "()I"⟩
abbrev w_WS_valve : List Cond := gW y_WS_valve b_WS_valve 1 (some .int)
theorem m_WS_valve : Cond.code y_WS_valve b_WS_valve 1 (some .int) ∈ gT := gT_in (List.mem_of_getElem? (i := 178) (by decide +kernel)) (by decide +kernel)
abbrev b_WS_pipe : ByteArray := prog_1_method_5_code
def y_WS_pipe : MethodName := ⟨R_WS, "pipe", "(IIJ)I"⟩
abbrev w_WS_pipe : List Cond := gW y_WS_pipe b_WS_pipe 5 (some .int)
theorem m_WS_pipe : Cond.code y_WS_pipe b_WS_pipe 5 (some .int) ∈ gT := gT_in (List.mem_of_getElem? (i := 182) (by decide +kernel)) (by decide +kernel)
abbrev b_TH_has : ByteArray := prog_5_method_3_code
def y_TH_has : MethodName := ⟨R_TH, "has", "(I)Z"⟩
abbrev w_TH_has : List Cond := gW y_TH_has b_TH_has 2 (some .boolean)
theorem m_TH_has : Cond.code y_TH_has b_TH_has 2 (some .boolean) ∈ gT := gT_in (List.mem_of_getElem? (i := 186) (by decide +kernel)) (by decide +kernel)
abbrev b_PI_add : ByteArray := prog_3_method_2_code
def y_PI_add : MethodName := ⟨R_PI, "add", "(IIJ)I"⟩
abbrev w_PI_add : List Cond := gW y_PI_add b_PI_add 5 (some .int)
theorem m_PI_add : Cond.code y_PI_add b_PI_add 5 (some .int) ∈ gT := gT_in (List.mem_of_getElem? (i := 191) (by decide +kernel)) (by decide +kernel)
abbrev b_WS_run : ByteArray := prog_1_method_6_code
def y_WS_run : MethodName := ⟨R_WS, "run", "(IZ)Z"⟩
abbrev w_WS_run : List Cond := gW y_WS_run b_WS_run 3 (some .boolean)
theorem m_WS_run : Cond.code y_WS_run b_WS_run 3 (some .boolean) ∈ gT := gT_in (List.mem_of_getElem? (i := 195) (by decide +kernel)) (by decide +kernel)
abbrev b_PI_has : ByteArray := prog_3_method_3_code
def y_PI_has : MethodName := ⟨R_PI, "has", "(I)Z"⟩
abbrev w_PI_has : List Cond := gW y_PI_has b_PI_has 2 (some .boolean)
theorem m_PI_has : Cond.code y_PI_has b_PI_has 2 (some .boolean) ∈ gT := gT_in (List.mem_of_getElem? (i := 199) (by decide +kernel)) (by decide +kernel)
abbrev b_WS_changeMark : ByteArray := prog_1_method_21_code
def y_WS_changeMark : MethodName := ⟨R_WS, "changeMark", "([ZIZ)Z"⟩
abbrev w_WS_changeMark : List Cond := gW y_WS_changeMark b_WS_changeMark 4 (some .boolean)
theorem m_WS_changeMark : Cond.code y_WS_changeMark b_WS_changeMark 4 (some .boolean) ∈ gT := gT_in (List.mem_of_getElem? (i := 202) (by decide +kernel)) (by decide +kernel)
abbrev b_WS_bar : ByteArray := prog_1_method_7_code
def y_WS_bar : MethodName := ⟨R_WS, "bar", "(IZ)Z"⟩
abbrev w_WS_bar : List Cond := gW y_WS_bar b_WS_bar 3 (some .boolean)
theorem m_WS_bar : Cond.code y_WS_bar b_WS_bar 3 (some .boolean) ∈ gT := gT_in (List.mem_of_getElem? (i := 206) (by decide +kernel)) (by decide +kernel)
abbrev b_WS_way : ByteArray := prog_1_method_8_code
def y_WS_way : MethodName := ⟨R_WS, "way", "(II)I"⟩
abbrev w_WS_way : List Cond := gW y_WS_way b_WS_way 4 (some .int)
theorem m_WS_way : Cond.code y_WS_way b_WS_way 4 (some .int) ∈ gT := gT_in (List.mem_of_getElem? (i := 210) (by decide +kernel)) (by decide +kernel)
abbrev b_WS_refusalOfEnds : ByteArray := prog_1_method_17_code
def y_WS_refusalOfEnds : MethodName := ⟨R_WS, "refusalOfEnds", "(II)I"⟩
abbrev w_WS_refusalOfEnds : List Cond := gW y_WS_refusalOfEnds b_WS_refusalOfEnds 3 (some .int)
theorem m_WS_refusalOfEnds : Cond.code y_WS_refusalOfEnds b_WS_refusalOfEnds 3 (some .int) ∈ gT := gT_in (List.mem_of_getElem? (i := 214) (by decide +kernel)) (by decide +kernel)
abbrev b_TH_isKind : ByteArray := prog_5_method_4_code
def y_TH_isKind : MethodName := ⟨R_TH, "isKind", "(II)Z"⟩
abbrev w_TH_isKind : List Cond := gW y_TH_isKind b_TH_isKind 3 (some .boolean)
theorem m_TH_isKind : Cond.code y_TH_isKind b_TH_isKind 3 (some .boolean) ∈ gT := gT_in (List.mem_of_getElem? (i := 218) (by decide +kernel)) (by decide +kernel)
abbrev b_SE_openAll : ByteArray := prog_4_method_2_code
def y_SE_openAll : MethodName := ⟨R_SE, "openAll", "()V"⟩
abbrev w_SE_openAll : List Cond := gW y_SE_openAll b_SE_openAll 2 none
theorem m_SE_openAll : Cond.code y_SE_openAll b_SE_openAll 2 none ∈ gT := gT_in (List.mem_of_getElem? (i := 223) (by decide +kernel)) (by decide +kernel)
abbrev b_SE_shutUnlessTank : ByteArray := prog_4_method_5_code
def y_SE_shutUnlessTank : MethodName := ⟨R_SE, "shutUnlessTank", "(I)V"⟩
abbrev w_SE_shutUnlessTank : List Cond := gW y_SE_shutUnlessTank b_SE_shutUnlessTank 2 none
theorem m_SE_shutUnlessTank : Cond.code y_SE_shutUnlessTank b_SE_shutUnlessTank 2 none ∈ gT := gT_in (List.mem_of_getElem? (i := 227) (by decide +kernel)) (by decide +kernel)
abbrev b_SE_leastWay : ByteArray := prog_4_method_6_code
def y_SE_leastWay : MethodName := ⟨R_SE, "leastWay", "(II)LWaySearch$FoundWay;"⟩
abbrev w_SE_leastWay : List Cond := gW y_SE_leastWay b_SE_leastWay 3 (some (.object "WaySearch$FoundWay"))
theorem m_SE_leastWay : Cond.code y_SE_leastWay b_SE_leastWay 3 (some (.object "WaySearch$FoundWay")) ∈ gT := gT_in (List.mem_of_getElem? (i := 232) (by decide +kernel)) (by decide +kernel)
abbrev b_SE_layArcs : ByteArray := prog_4_method_7_code
def y_SE_layArcs : MethodName := ⟨R_SE, "layArcs", "(I)V"⟩
abbrev w_SE_layArcs : List Cond := gW y_SE_layArcs b_SE_layArcs 3 none
theorem m_SE_layArcs : Cond.code y_SE_layArcs b_SE_layArcs 3 none ∈ gT := gT_in (List.mem_of_getElem? (i := 236) (by decide +kernel)) (by decide +kernel)
abbrev b_SE_layArc : ByteArray := prog_4_method_8_code
def y_SE_layArc : MethodName := ⟨R_SE, "layArc", "(IIII)V"⟩
abbrev w_SE_layArc : List Cond := gW y_SE_layArc b_SE_layArc 9 none
theorem m_SE_layArc : Cond.code y_SE_layArc b_SE_layArc 9 none ∈ gT := gT_in (List.mem_of_getElem? (i := 240) (by decide +kernel)) (by decide +kernel)
abbrev b_TH_letFlow : ByteArray := prog_5_method_5_code
def y_TH_letFlow : MethodName := ⟨R_TH, "letFlow", "(II)Z"⟩
abbrev w_TH_letFlow : List Cond := gW y_TH_letFlow b_TH_letFlow 5 (some .boolean)
theorem m_TH_letFlow : Cond.code y_TH_letFlow b_TH_letFlow 5 (some .boolean) ∈ gT := gT_in (List.mem_of_getElem? (i := 244) (by decide +kernel)) (by decide +kernel)
abbrev b_SE_reckonCostsTo : ByteArray := prog_4_method_9_code
def y_SE_reckonCostsTo : MethodName := ⟨R_SE, "reckonCostsTo", "(I)V"⟩
abbrev w_SE_reckonCostsTo : List Cond := gW y_SE_reckonCostsTo b_SE_reckonCostsTo 4 none
theorem m_SE_reckonCostsTo : Cond.code y_SE_reckonCostsTo b_SE_reckonCostsTo 4 none ∈ gT := gT_in (List.mem_of_getElem? (i := 249) (by decide +kernel)) (by decide +kernel)
abbrev b_AR_fill : ByteArray := prog_11_method_101_code
def y_AR_fill : MethodName := ⟨R_AR, "fill", "([JJ)V"⟩
abbrev w_AR_fill : List Cond := gW y_AR_fill b_AR_fill 5 none
theorem m_AR_fill : Cond.code y_AR_fill b_AR_fill 5 none ∈ gT := gT_in (List.mem_of_getElem? (i := 253) (by decide +kernel)) (by decide +kernel)
abbrev b_SE_lowerCosts : ByteArray := prog_4_method_10_code
def y_SE_lowerCosts : MethodName := ⟨R_SE, "lowerCosts", "()Z"⟩
abbrev w_SE_lowerCosts : List Cond := gW y_SE_lowerCosts b_SE_lowerCosts 5 (some .boolean)
theorem m_SE_lowerCosts : Cond.code y_SE_lowerCosts b_SE_lowerCosts 5 (some .boolean) ∈ gT := gT_in (List.mem_of_getElem? (i := 257) (by decide +kernel)) (by decide +kernel)
abbrev b_SE_followLeast : ByteArray := prog_4_method_11_code
def y_SE_followLeast : MethodName := ⟨R_SE, "followLeast", "(II)LWaySearch$FoundWay;"⟩
abbrev w_SE_followLeast : List Cond := gW y_SE_followLeast b_SE_followLeast 9 (some (.object "WaySearch$FoundWay"))
theorem m_SE_followLeast : Cond.code y_SE_followLeast b_SE_followLeast 9 (some (.object "WaySearch$FoundWay")) ∈ gT := gT_in (List.mem_of_getElem? (i := 261) (by decide +kernel)) (by decide +kernel)
abbrev b_SE_firstLeastArc : ByteArray := prog_4_method_12_code
def y_SE_firstLeastArc : MethodName := ⟨R_SE, "firstLeastArc", "(I)I"⟩
abbrev w_SE_firstLeastArc : List Cond := gW y_SE_firstLeastArc b_SE_firstLeastArc 5 (some .int)
theorem m_SE_firstLeastArc : Cond.code y_SE_firstLeastArc b_SE_firstLeastArc 5 (some .int) ∈ gT := gT_in (List.mem_of_getElem? (i := 265) (by decide +kernel)) (by decide +kernel)
abbrev b_AR_copyOf : ByteArray := prog_11_method_123_code
def y_AR_copyOf : MethodName := ⟨R_AR, "copyOf", "([II)[I"⟩
abbrev w_AR_copyOf : List Cond := gW y_AR_copyOf b_AR_copyOf 3 (some (.array .int))
theorem m_AR_copyOf : Cond.code y_AR_copyOf b_AR_copyOf 3 (some (.array .int)) ∈ gT := gT_in (List.mem_of_getElem? (i := 268) (by decide +kernel)) (by decide +kernel)
abbrev b_MA_min : ByteArray := prog_9_method_69_code
def y_MA_min : MethodName := ⟨R_MA, "min", "(II)I"⟩
abbrev w_MA_min : List Cond := gW y_MA_min b_MA_min 2 (some .int)
theorem m_MA_min : Cond.code y_MA_min b_MA_min 2 (some .int) ∈ gT := gT_in (List.mem_of_getElem? (i := 278) (by decide +kernel)) (by decide +kernel)
abbrev b_FW_init : ByteArray := prog_2_method_1_code
def y_FW_init : MethodName := ⟨R_FW, "<init>", "(IIJ[I[I)V"⟩
abbrev w_FW_init : List Cond := gW y_FW_init b_FW_init 7 none
theorem m_FW_init : Cond.code y_FW_init b_FW_init 7 none ∈ gT := gT_in (List.mem_of_getElem? (i := 286) (by decide +kernel)) (by decide +kernel)
abbrev b_WS_keep : ByteArray := prog_1_method_19_code
def y_WS_keep : MethodName := ⟨R_WS, "keep", "(LWaySearch$FoundWay;)I"⟩
abbrev w_WS_keep : List Cond := gW y_WS_keep b_WS_keep 2 (some .int)
theorem m_WS_keep : Cond.code y_WS_keep b_WS_keep 2 (some .int) ∈ gT := gT_in (List.mem_of_getElem? (i := 314) (by decide +kernel)) (by decide +kernel)
abbrev b_WS_pipeOf : ByteArray := prog_1_method_9_code
def y_WS_pipeOf : MethodName := ⟨R_WS, "pipeOf", "(II)I"⟩
abbrev w_WS_pipeOf : List Cond := gW y_WS_pipeOf b_WS_pipeOf 4 (some .int)
theorem m_WS_pipeOf : Cond.code y_WS_pipeOf b_WS_pipeOf 4 (some .int) ∈ gT := gT_in (List.mem_of_getElem? (i := 318) (by decide +kernel)) (by decide +kernel)
abbrev b_WS_wayNumbered : ByteArray := prog_1_method_18_code
def y_WS_wayNumbered : MethodName := ⟨R_WS, "wayNumbered", "(I)LWaySearch$FoundWay;"⟩
abbrev w_WS_wayNumbered : List Cond := gW y_WS_wayNumbered b_WS_wayNumbered 2 (some (.object "WaySearch$FoundWay"))
theorem m_WS_wayNumbered : Cond.code y_WS_wayNumbered b_WS_wayNumbered 2 (some (.object "WaySearch$FoundWay")) ∈ gT := gT_in (List.mem_of_getElem? (i := 322) (by decide +kernel)) (by decide +kernel)
abbrev b_FW_pipeAt : ByteArray := prog_2_method_2_code
def y_FW_pipeAt : MethodName := ⟨R_FW, "pipeAt", "(I)I"⟩
abbrev w_FW_pipeAt : List Cond := gW y_FW_pipeAt b_FW_pipeAt 2 (some .int)
theorem m_FW_pipeAt : Cond.code y_FW_pipeAt b_FW_pipeAt 2 (some .int) ∈ gT := gT_in (List.mem_of_getElem? (i := 326) (by decide +kernel)) (by decide +kernel)
abbrev b_WS_valveOf : ByteArray := prog_1_method_10_code
def y_WS_valveOf : MethodName := ⟨R_WS, "valveOf", "(II)I"⟩
abbrev w_WS_valveOf : List Cond := gW y_WS_valveOf b_WS_valveOf 9 (some .int)
theorem m_WS_valveOf : Cond.code y_WS_valveOf b_WS_valveOf 9 (some .int) ∈ gT := gT_in (List.mem_of_getElem? (i := 330) (by decide +kernel)) (by decide +kernel)
abbrev b_WS_rest : ByteArray := prog_1_method_11_code
def y_WS_rest : MethodName := ⟨R_WS, "rest", "(I)J"⟩
abbrev w_WS_rest : List Cond := gW y_WS_rest b_WS_rest 3 (some .long)
theorem m_WS_rest : Cond.code y_WS_rest b_WS_rest 3 (some .long) ∈ gT := gT_in (List.mem_of_getElem? (i := 334) (by decide +kernel)) (by decide +kernel)
abbrev b_WS_other : ByteArray := prog_1_method_12_code
def y_WS_other : MethodName := ⟨R_WS, "other", "(II)I"⟩
abbrev w_WS_other : List Cond := gW y_WS_other b_WS_other 5 (some .int)
theorem m_WS_other : Cond.code y_WS_other b_WS_other 5 (some .int) ∈ gT := gT_in (List.mem_of_getElem? (i := 339) (by decide +kernel)) (by decide +kernel)
abbrev b_SE_shutPipe : ByteArray := prog_4_method_3_code
def y_SE_shutPipe : MethodName := ⟨R_SE, "shutPipe", "(I)V"⟩
abbrev w_SE_shutPipe : List Cond := gW y_SE_shutPipe b_SE_shutPipe 2 none
theorem m_SE_shutPipe : Cond.code y_SE_shutPipe b_SE_shutPipe 2 none ∈ gT := gT_in (List.mem_of_getElem? (i := 343) (by decide +kernel)) (by decide +kernel)
abbrev b_WS_two : ByteArray := prog_1_method_13_code
def y_WS_two : MethodName := ⟨R_WS, "two", "(IIII)I"⟩
abbrev w_WS_two : List Cond := gW y_WS_two b_WS_two 8 (some .int)
theorem m_WS_two : Cond.code y_WS_two b_WS_two 8 (some .int) ∈ gT := gT_in (List.mem_of_getElem? (i := 348) (by decide +kernel)) (by decide +kernel)
abbrev b_SE_shutWay : ByteArray := prog_4_method_4_code
def y_SE_shutWay : MethodName := ⟨R_SE, "shutWay", "(LWaySearch$FoundWay;)V"⟩
abbrev w_SE_shutWay : List Cond := gW y_SE_shutWay b_SE_shutWay 6 none
theorem m_SE_shutWay : Cond.code y_SE_shutWay b_SE_shutWay 6 none ∈ gT := gT_in (List.mem_of_getElem? (i := 352) (by decide +kernel)) (by decide +kernel)
abbrev b_WS_forward : ByteArray := prog_1_method_14_code
def y_WS_forward : MethodName := ⟨R_WS, "forward", "(III)Z"⟩
abbrev w_WS_forward : List Cond := gW y_WS_forward b_WS_forward 4 (some .boolean)
theorem m_WS_forward : Cond.code y_WS_forward b_WS_forward 4 (some .boolean) ∈ gT := gT_in (List.mem_of_getElem? (i := 357) (by decide +kernel)) (by decide +kernel)
abbrev b_PI_anyJoins : ByteArray := prog_3_method_4_code
def y_PI_anyJoins : MethodName := ⟨R_PI, "anyJoins", "(II)Z"⟩
abbrev w_PI_anyJoins : List Cond := gW y_PI_anyJoins b_PI_anyJoins 6 (some .boolean)
theorem m_PI_anyJoins : Cond.code y_PI_anyJoins b_PI_anyJoins 6 (some .boolean) ∈ gT := gT_in (List.mem_of_getElem? (i := 361) (by decide +kernel)) (by decide +kernel)
abbrev b_WS_told : ByteArray := prog_1_method_15_code
def y_WS_told : MethodName := ⟨R_WS, "told", "(I)I"⟩
abbrev w_WS_told : List Cond := gW y_WS_told b_WS_told 2 (some .int)
theorem m_WS_told : Cond.code y_WS_told b_WS_told 2 (some .int) ∈ gT := gT_in (List.mem_of_getElem? (i := 365) (by decide +kernel)) (by decide +kernel)
abbrev b_WS_countMarks : ByteArray := prog_1_method_22_code
def y_WS_countMarks : MethodName := ⟨R_WS, "countMarks", "([Z)I"⟩
abbrev w_WS_countMarks : List Cond := gW y_WS_countMarks b_WS_countMarks 6 (some .int)
theorem m_WS_countMarks : Cond.code y_WS_countMarks b_WS_countMarks 6 (some .int) ∈ gT := gT_in (List.mem_of_getElem? (i := 368) (by decide +kernel)) (by decide +kernel)
abbrev b_WS_countLooseThings : ByteArray := prog_1_method_20_code
def y_WS_countLooseThings : MethodName := ⟨R_WS, "countLooseThings", "()I"⟩
abbrev w_WS_countLooseThings : List Cond := gW y_WS_countLooseThings b_WS_countLooseThings 3 (some .int)
theorem m_WS_countLooseThings : Cond.code y_WS_countLooseThings b_WS_countLooseThings 3 (some .int) ∈ gT := gT_in (List.mem_of_getElem? (i := 372) (by decide +kernel)) (by decide +kernel)
abbrev b_PI_anyEndsAt : ByteArray := prog_3_method_5_code
def y_PI_anyEndsAt : MethodName := ⟨R_PI, "anyEndsAt", "(I)Z"⟩
abbrev w_PI_anyEndsAt : List Cond := gW y_PI_anyEndsAt b_PI_anyEndsAt 3 (some .boolean)
theorem m_PI_anyEndsAt : Cond.code y_PI_anyEndsAt b_PI_anyEndsAt 3 (some .boolean) ∈ gT := gT_in (List.mem_of_getElem? (i := 376) (by decide +kernel)) (by decide +kernel)
abbrev b_WS_blow : ByteArray := prog_1_method_16_code
def y_WS_blow : MethodName := ⟨R_WS, "blow", "(II)I"⟩
abbrev w_WS_blow : List Cond := gW y_WS_blow b_WS_blow 6 (some .int)
theorem m_WS_blow : Cond.code y_WS_blow b_WS_blow 6 (some .int) ∈ gT := gT_in (List.mem_of_getElem? (i := 380) (by decide +kernel)) (by decide +kernel)
abbrev b_FW_thingAt : ByteArray := prog_2_method_3_code
def y_FW_thingAt : MethodName := ⟨R_FW, "thingAt", "(I)I"⟩
abbrev w_FW_thingAt : List Cond := gW y_FW_thingAt b_FW_thingAt 2 (some .int)
theorem m_FW_thingAt : Cond.code y_FW_thingAt b_FW_thingAt 2 (some .int) ∈ gT := gT_in (List.mem_of_getElem? (i := 384) (by decide +kernel)) (by decide +kernel)
abbrev b_MO_init : ByteArray := prog_7_method_1_code
def y_MO_init : MethodName := ⟨R_MO, "<init>", "()V"⟩
abbrev w_MO_init : List Cond := gW y_MO_init b_MO_init 1 none
theorem m_MO_init : Cond.code y_MO_init b_MO_init 1 none ∈ gT := gT_in (List.mem_of_getElem? (i := 389) (by decide +kernel)) (by decide +kernel)
abbrev b_MO_tank : ByteArray := prog_7_method_3_code
def y_MO_tank : MethodName := ⟨R_MO, "tank", "(Z)I"⟩
abbrev w_MO_tank : List Cond := gW y_MO_tank b_MO_tank 3 (some .int)
theorem m_MO_tank : Cond.code y_MO_tank b_MO_tank 3 (some .int) ∈ gT := gT_in (List.mem_of_getElem? (i := 458) (by decide +kernel)) (by decide +kernel)
abbrev b_MO_thing : ByteArray := prog_7_method_2_code
def y_MO_thing : MethodName := ⟨R_MO, "thing", "(I)I"⟩
abbrev w_MO_thing : List Cond := gW y_MO_thing b_MO_thing 2 (some .int)
theorem m_MO_thing : Cond.code y_MO_thing b_MO_thing 2 (some .int) ∈ gT := gT_in (List.mem_of_getElem? (i := 462) (by decide +kernel)) (by decide +kernel)
abbrev b_MO_pump : ByteArray := prog_7_method_4_code
def y_MO_pump : MethodName := ⟨R_MO, "pump", "()I"⟩
abbrev w_MO_pump : List Cond := gW y_MO_pump b_MO_pump 1 (some .int)
theorem m_MO_pump : Cond.code y_MO_pump b_MO_pump 1 (some .int) ∈ gT := gT_in (List.mem_of_getElem? (i := 466) (by decide +kernel)) (by decide +kernel)
abbrev b_MO_valve : ByteArray := prog_7_method_5_code
def y_MO_valve : MethodName := ⟨R_MO, "valve", "()I"⟩
abbrev w_MO_valve : List Cond := gW y_MO_valve b_MO_valve 1 (some .int)
theorem m_MO_valve : Cond.code y_MO_valve b_MO_valve 1 (some .int) ∈ gT := gT_in (List.mem_of_getElem? (i := 470) (by decide +kernel)) (by decide +kernel)
abbrev b_MO_pipe : ByteArray := prog_7_method_8_code
def y_MO_pipe : MethodName := ⟨R_MO, "pipe", "(IIJ)I"⟩
abbrev w_MO_pipe : List Cond := gW y_MO_pipe b_MO_pipe 5 (some .int)
theorem m_MO_pipe : Cond.code y_MO_pipe b_MO_pipe 5 (some .int) ∈ gT := gT_in (List.mem_of_getElem? (i := 474) (by decide +kernel)) (by decide +kernel)
abbrev b_MO_isThing : ByteArray := prog_7_method_6_code
def y_MO_isThing : MethodName := ⟨R_MO, "isThing", "(I)Z"⟩
abbrev w_MO_isThing : List Cond := gW y_MO_isThing b_MO_isThing 2 (some .boolean)
theorem m_MO_isThing : Cond.code y_MO_isThing b_MO_isThing 2 (some .boolean) ∈ gT := gT_in (List.mem_of_getElem? (i := 478) (by decide +kernel)) (by decide +kernel)
abbrev b_MO_run : ByteArray := prog_7_method_9_code
def y_MO_run : MethodName := ⟨R_MO, "run", "(IZ)Z"⟩
abbrev w_MO_run : List Cond := gW y_MO_run b_MO_run 3 (some .boolean)
theorem m_MO_run : Cond.code y_MO_run b_MO_run 3 (some .boolean) ∈ gT := gT_in (List.mem_of_getElem? (i := 483) (by decide +kernel)) (by decide +kernel)
abbrev b_MO_bar : ByteArray := prog_7_method_10_code
def y_MO_bar : MethodName := ⟨R_MO, "bar", "(IZ)Z"⟩
abbrev w_MO_bar : List Cond := gW y_MO_bar b_MO_bar 3 (some .boolean)
theorem m_MO_bar : Cond.code y_MO_bar b_MO_bar 3 (some .boolean) ∈ gT := gT_in (List.mem_of_getElem? (i := 487) (by decide +kernel)) (by decide +kernel)
abbrev b_MO_forward : ByteArray := prog_7_method_13_code
def y_MO_forward : MethodName := ⟨R_MO, "forward", "(III)Z"⟩
abbrev w_MO_forward : List Cond := gW y_MO_forward b_MO_forward 4 (some .boolean)
theorem m_MO_forward : Cond.code y_MO_forward b_MO_forward 4 (some .boolean) ∈ gT := gT_in (List.mem_of_getElem? (i := 491) (by decide +kernel)) (by decide +kernel)
abbrev b_MO_areJoined : ByteArray := prog_7_method_12_code
def y_MO_areJoined : MethodName := ⟨R_MO, "areJoined", "(II)Z"⟩
abbrev w_MO_areJoined : List Cond := gW y_MO_areJoined b_MO_areJoined 5 (some .boolean)
theorem m_MO_areJoined : Cond.code y_MO_areJoined b_MO_areJoined 5 (some .boolean) ∈ gT := gT_in (List.mem_of_getElem? (i := 495) (by decide +kernel)) (by decide +kernel)
abbrev b_MO_joins : ByteArray := prog_7_method_11_code
def y_MO_joins : MethodName := ⟨R_MO, "joins", "(III)Z"⟩
abbrev w_MO_joins : List Cond := gW y_MO_joins b_MO_joins 4 (some .boolean)
theorem m_MO_joins : Cond.code y_MO_joins b_MO_joins 4 (some .boolean) ∈ gT := gT_in (List.mem_of_getElem? (i := 499) (by decide +kernel)) (by decide +kernel)
abbrev b_MO_way : ByteArray := prog_7_method_20_code
def y_MO_way : MethodName := ⟨R_MO, "way", "(II)I"⟩
abbrev w_MO_way : List Cond := gW y_MO_way b_MO_way 4 (some .int)
theorem m_MO_way : Cond.code y_MO_way b_MO_way 4 (some .int) ∈ gT := gT_in (List.mem_of_getElem? (i := 503) (by decide +kernel)) (by decide +kernel)
abbrev b_MO_wrong : ByteArray := prog_7_method_19_code
def y_MO_wrong : MethodName := ⟨R_MO, "wrong", "(II)I"⟩
abbrev w_MO_wrong : List Cond := gW y_MO_wrong b_MO_wrong 3 (some .int)
theorem m_MO_wrong : Cond.code y_MO_wrong b_MO_wrong 3 (some .int) ∈ gT := gT_in (List.mem_of_getElem? (i := 507) (by decide +kernel)) (by decide +kernel)
abbrev b_MO_isTank : ByteArray := prog_7_method_7_code
def y_MO_isTank : MethodName := ⟨R_MO, "isTank", "(I)Z"⟩
abbrev w_MO_isTank : List Cond := gW y_MO_isTank b_MO_isTank 2 (some .boolean)
theorem m_MO_isTank : Cond.code y_MO_isTank b_MO_isTank 2 (some .boolean) ∈ gT := gT_in (List.mem_of_getElem? (i := 511) (by decide +kernel)) (by decide +kernel)
abbrev b_MO_shut : ByteArray := prog_7_method_14_code
def y_MO_shut : MethodName := ⟨R_MO, "shut", "()V"⟩
abbrev w_MO_shut : List Cond := gW y_MO_shut b_MO_shut 2 none
theorem m_MO_shut : Cond.code y_MO_shut b_MO_shut 2 none ∈ gT := gT_in (List.mem_of_getElem? (i := 515) (by decide +kernel)) (by decide +kernel)
abbrev b_MO_exists : ByteArray := prog_7_method_21_code
def y_MO_exists : MethodName := ⟨R_MO, "exists", "(II)Z"⟩
abbrev w_MO_exists : List Cond := gW y_MO_exists b_MO_exists 3 (some .boolean)
theorem m_MO_exists : Cond.code y_MO_exists b_MO_exists 3 (some .boolean) ∈ gT := gT_in (List.mem_of_getElem? (i := 519) (by decide +kernel)) (by decide +kernel)
abbrev b_MO_reckon : ByteArray := prog_7_method_16_code
def y_MO_reckon : MethodName := ⟨R_MO, "reckon", "(II)V"⟩
abbrev w_MO_reckon : List Cond := gW y_MO_reckon b_MO_reckon 5 none
theorem m_MO_reckon : Cond.code y_MO_reckon b_MO_reckon 5 none ∈ gT := gT_in (List.mem_of_getElem? (i := 523) (by decide +kernel)) (by decide +kernel)
abbrev b_MO_improve : ByteArray := prog_7_method_17_code
def y_MO_improve : MethodName := ⟨R_MO, "improve", "(IIIII)Z"⟩
abbrev w_MO_improve : List Cond := gW y_MO_improve b_MO_improve 9 (some .boolean)
theorem m_MO_improve : Cond.code y_MO_improve b_MO_improve 9 (some .boolean) ∈ gT := gT_in (List.mem_of_getElem? (i := 528) (by decide +kernel)) (by decide +kernel)
abbrev b_MO_goes : ByteArray := prog_7_method_15_code
def y_MO_goes : MethodName := ⟨R_MO, "goes", "(III)Z"⟩
abbrev w_MO_goes : List Cond := gW y_MO_goes b_MO_goes 4 (some .boolean)
theorem m_MO_goes : Cond.code y_MO_goes b_MO_goes 4 (some .boolean) ∈ gT := gT_in (List.mem_of_getElem? (i := 532) (by decide +kernel)) (by decide +kernel)
abbrev b_MO_walk : ByteArray := prog_7_method_18_code
def y_MO_walk : MethodName := ⟨R_MO, "walk", "(III)Z"⟩
abbrev w_MO_walk : List Cond := gW y_MO_walk b_MO_walk 10 (some .boolean)
theorem m_MO_walk : Cond.code y_MO_walk b_MO_walk 10 (some .boolean) ∈ gT := gT_in (List.mem_of_getElem? (i := 537) (by decide +kernel)) (by decide +kernel)
abbrev b_MO_pipeOf : ByteArray := prog_7_method_23_code
def y_MO_pipeOf : MethodName := ⟨R_MO, "pipeOf", "(II)I"⟩
abbrev w_MO_pipeOf : List Cond := gW y_MO_pipeOf b_MO_pipeOf 3 (some .int)
theorem m_MO_pipeOf : Cond.code y_MO_pipeOf b_MO_pipeOf 3 (some .int) ∈ gT := gT_in (List.mem_of_getElem? (i := 541) (by decide +kernel)) (by decide +kernel)
abbrev b_MO_isWay : ByteArray := prog_7_method_22_code
def y_MO_isWay : MethodName := ⟨R_MO, "isWay", "(I)Z"⟩
abbrev w_MO_isWay : List Cond := gW y_MO_isWay b_MO_isWay 2 (some .boolean)
theorem m_MO_isWay : Cond.code y_MO_isWay b_MO_isWay 2 (some .boolean) ∈ gT := gT_in (List.mem_of_getElem? (i := 545) (by decide +kernel)) (by decide +kernel)
abbrev b_MO_valveOf : ByteArray := prog_7_method_25_code
def y_MO_valveOf : MethodName := ⟨R_MO, "valveOf", "(II)I"⟩
abbrev w_MO_valveOf : List Cond := gW y_MO_valveOf b_MO_valveOf 6 (some .int)
theorem m_MO_valveOf : Cond.code y_MO_valveOf b_MO_valveOf 6 (some .int) ∈ gT := gT_in (List.mem_of_getElem? (i := 549) (by decide +kernel)) (by decide +kernel)
abbrev b_MO_behind : ByteArray := prog_7_method_24_code
def y_MO_behind : MethodName := ⟨R_MO, "behind", "(II)I"⟩
abbrev w_MO_behind : List Cond := gW y_MO_behind b_MO_behind 6 (some .int)
theorem m_MO_behind : Cond.code y_MO_behind b_MO_behind 6 (some .int) ∈ gT := gT_in (List.mem_of_getElem? (i := 553) (by decide +kernel)) (by decide +kernel)
abbrev b_MO_rest : ByteArray := prog_7_method_26_code
def y_MO_rest : MethodName := ⟨R_MO, "rest", "(I)J"⟩
abbrev w_MO_rest : List Cond := gW y_MO_rest b_MO_rest 5 (some .long)
theorem m_MO_rest : Cond.code y_MO_rest b_MO_rest 5 (some .long) ∈ gT := gT_in (List.mem_of_getElem? (i := 557) (by decide +kernel)) (by decide +kernel)
abbrev b_MO_other : ByteArray := prog_7_method_27_code
def y_MO_other : MethodName := ⟨R_MO, "other", "(II)I"⟩
abbrev w_MO_other : List Cond := gW y_MO_other b_MO_other 3 (some .int)
theorem m_MO_other : Cond.code y_MO_other b_MO_other 3 (some .int) ∈ gT := gT_in (List.mem_of_getElem? (i := 562) (by decide +kernel)) (by decide +kernel)
abbrev b_MO_two : ByteArray := prog_7_method_28_code
def y_MO_two : MethodName := ⟨R_MO, "two", "(IIII)I"⟩
abbrev w_MO_two : List Cond := gW y_MO_two b_MO_two 15 (some .int)
theorem m_MO_two : Cond.code y_MO_two b_MO_two 15 (some .int) ∈ gT := gT_in (List.mem_of_getElem? (i := 566) (by decide +kernel)) (by decide +kernel)
abbrev b_MO_find : ByteArray := prog_7_method_29_code
def y_MO_find : MethodName := ⟨R_MO, "find", "(IIIII)Z"⟩
abbrev w_MO_find : List Cond := gW y_MO_find b_MO_find 8 (some .boolean)
theorem m_MO_find : Cond.code y_MO_find b_MO_find 8 (some .boolean) ∈ gT := gT_in (List.mem_of_getElem? (i := 570) (by decide +kernel)) (by decide +kernel)
abbrev b_MO_told : ByteArray := prog_7_method_30_code
def y_MO_told : MethodName := ⟨R_MO, "told", "(I)I"⟩
abbrev w_MO_told : List Cond := gW y_MO_told b_MO_told 6 (some .int)
theorem m_MO_told : Cond.code y_MO_told b_MO_told 6 (some .int) ∈ gT := gT_in (List.mem_of_getElem? (i := 574) (by decide +kernel)) (by decide +kernel)
abbrev b_MO_blow : ByteArray := prog_7_method_31_code
def y_MO_blow : MethodName := ⟨R_MO, "blow", "(II)I"⟩
abbrev w_MO_blow : List Cond := gW y_MO_blow b_MO_blow 5 (some .int)
theorem m_MO_blow : Cond.code y_MO_blow b_MO_blow 5 (some .int) ∈ gT := gT_in (List.mem_of_getElem? (i := 578) (by decide +kernel)) (by decide +kernel)
end
section
section LINKS
variable {p : Program} {l : Launch} {e : Env} {R : Room} {s : State} {m : MethodId} {args : Array Value} {below : List Frame} {meth : Method} {c : Code} {H : Heap} {locs : List Loc} {cells slots : Nat} {Q : State → Prop}
variable {cc : ByteArray} {nL pc : Nat} {ls : Array Slot} {rest : List Value} {g : va_G} {tys : List (ClassId × FieldType)} {A : Nat → Prop} {H0 : Heap} {w w' : va_W} {x : Nat} {fs : List Value} {v : Value} {rm : Room} {mc ms : Nat}
theorem k_ini_LW : Cond.initialized R_LW ∈ gT := gT_in (List.mem_of_getElem? (i := 19) (by decide +kernel)) (by decide +kernel)
theorem k_ini_WS : Cond.initialized R_WS ∈ gT := gT_in (List.mem_of_getElem? (i := 20) (by decide +kernel)) (by decide +kernel)
theorem k_ini_TH : Cond.initialized R_TH ∈ gT := gT_in (List.mem_of_getElem? (i := 21) (by decide +kernel)) (by decide +kernel)
theorem k_ini_PI : Cond.initialized R_PI ∈ gT := gT_in (List.mem_of_getElem? (i := 22) (by decide +kernel)) (by decide +kernel)
theorem k_ini_SE : Cond.initialized R_SE ∈ gT := gT_in (List.mem_of_getElem? (i := 23) (by decide +kernel)) (by decide +kernel)
theorem k_ini_MO : Cond.initialized R_MO ∈ gT := gT_in (List.mem_of_getElem? (i := 24) (by decide +kernel)) (by decide +kernel)
theorem k_ini_AR : Cond.initialized R_AR ∈ gT := gT_in (List.mem_of_getElem? (i := 25) (by decide +kernel)) (by decide +kernel)
theorem k_ini_MA : Cond.initialized R_MA ∈ gT := gT_in (List.mem_of_getElem? (i := 26) (by decide +kernel)) (by decide +kernel)
theorem k_ini_SY : Cond.initialized R_SY ∈ gT := gT_in (List.mem_of_getElem? (i := 27) (by decide +kernel)) (by decide +kernel)
theorem k_ini_FW : Cond.initialized R_FW ∈ gT := gT_in (List.mem_of_getElem? (i := 28) (by decide +kernel)) (by decide +kernel)
theorem k_LW_7 : Cond.classLink R_LW 7 R_WS ∈ gT := gT_in (List.mem_of_getElem? (i := 29) (by decide +kernel)) (by decide +kernel)
theorem k_inst_WS : Cond.instantiable R_WS 5 ∈ gT := gT_in (List.mem_of_getElem? (i := 30) (by decide +kernel)) (by decide +kernel)
theorem k_WS_7 : Cond.classLink R_WS 7 R_TH ∈ gT := gT_in (List.mem_of_getElem? (i := 37) (by decide +kernel)) (by decide +kernel)
theorem k_inst_TH : Cond.instantiable R_TH 6 ∈ gT := gT_in (List.mem_of_getElem? (i := 38) (by decide +kernel)) (by decide +kernel)
theorem k_TH_9 : Cond.fieldLink R_TH 9 R_TH "kind" "[I" ∈ gT := gT_in (List.mem_of_getElem? (i := 43) (by decide +kernel)) (by decide +kernel)
theorem gf_TH_9 (C0 : cX p m c cc nL s args R_TH g classes tys) (hP : va_P g classes w H) (q0 : Nat) (he : w[q0]? = some (x, .inr (1, fs))) (hv : fs[0]? = some v) (hdg : decode cc pc = .ok (.getfield 9, 3)) (kk : W p l e R s m args below meth c H locs cells slots Q (F0 m (pc + 3) ls (v :: rest))) : W p l e R s m args below meth c H locs cells slots Q (F0 m pc ls (.ref x :: rest)) :=
  va_get C0.1 C0.2.1 C0.2.2.2.2.1 iw_TH C0.2.2.2.1 C0.2.2.2.2.2.1 hP q0 he rfl 0 (by decide) (C0.2.2.2.2.1 _ k_TH_9) (fun _ h => h) hv hdg kk
theorem pf_TH_9 (C0 : cX p m c cc nL s args R_TH g classes tys) (hin : meth.name = "<init>") (hB : wB g classes A H0 w H locs) (q0 : Nat) (he : w[q0]? = some (x, .inr (1, fs))) (hl : 0 < fs.length) (hn : narrow (.array .int) v = v) (hfit : fits (.array .int) v = true) (hw : w.set q0 (x, .inr (1, fs.set 0 v)) = w') (hdg : decode cc pc = .ok (.putfield 9, 3)) (kk : ∀ (H1 : Heap) (locs1 : List Loc), wB g classes A H0 w' H1 locs1 → W p l e R s m args below meth c H1 locs1 cells slots Q (F0 m (pc + 3) ls rest)) : W p l e R s m args below meth c H locs cells slots Q (F0 m pc ls (v :: .ref x :: rest)) := by
  subst hw
  exact va_putF C0.1 C0.2.1 C0.2.2.2.2.1 iw_TH t_TH t_TH_ok n_TH C0.2.2.2.1 C0.2.2.2.2.2.1 hB.1 hB.2.1 hB.2.2.1 q0 he rfl 0 (by decide) (C0.2.2.2.2.1 _ k_TH_9) (fun _ h => h) rfl hin rfl (by decide +kernel) hn hfit hl hdg (fun H1 locs1 hP hD hS => kk H1 locs1 ⟨hP, hD, hS, hB.2.2.2⟩)
theorem k_SE_93 : Cond.fieldLink R_SE 93 R_TH "kind" "[I" ∈ gT := gT_in (List.mem_of_getElem? (i := 44) (by decide +kernel)) (by decide +kernel)
theorem gf_SE_93 (C0 : cX p m c cc nL s args R_SE g classes tys) (hP : va_P g classes w H) (q0 : Nat) (he : w[q0]? = some (x, .inr (1, fs))) (hv : fs[0]? = some v) (hdg : decode cc pc = .ok (.getfield 93, 3)) (kk : W p l e R s m args below meth c H locs cells slots Q (F0 m (pc + 3) ls (v :: rest))) : W p l e R s m args below meth c H locs cells slots Q (F0 m pc ls (.ref x :: rest)) :=
  va_get C0.1 C0.2.1 C0.2.2.2.2.1 iw_TH C0.2.2.2.1 C0.2.2.2.2.2.1 hP q0 he rfl 0 (by decide) (C0.2.2.2.2.1 _ k_SE_93) (fun _ h => h) hv hdg kk
-- no put of SE_93
theorem k_TH_15 : Cond.fieldLink R_TH 15 R_TH "empty" "[Z" ∈ gT := gT_in (List.mem_of_getElem? (i := 45) (by decide +kernel)) (by decide +kernel)
theorem gf_TH_15 (C0 : cX p m c cc nL s args R_TH g classes tys) (hP : va_P g classes w H) (q0 : Nat) (he : w[q0]? = some (x, .inr (1, fs))) (hv : fs[1]? = some v) (hdg : decode cc pc = .ok (.getfield 15, 3)) (kk : W p l e R s m args below meth c H locs cells slots Q (F0 m (pc + 3) ls (v :: rest))) : W p l e R s m args below meth c H locs cells slots Q (F0 m pc ls (.ref x :: rest)) :=
  va_get C0.1 C0.2.1 C0.2.2.2.2.1 iw_TH C0.2.2.2.1 C0.2.2.2.2.2.1 hP q0 he rfl 1 (by decide) (C0.2.2.2.2.1 _ k_TH_15) (fun _ h => h) hv hdg kk
theorem pf_TH_15 (C0 : cX p m c cc nL s args R_TH g classes tys) (hin : meth.name = "<init>") (hB : wB g classes A H0 w H locs) (q0 : Nat) (he : w[q0]? = some (x, .inr (1, fs))) (hl : 1 < fs.length) (hn : narrow (.array .boolean) v = v) (hfit : fits (.array .boolean) v = true) (hw : w.set q0 (x, .inr (1, fs.set 1 v)) = w') (hdg : decode cc pc = .ok (.putfield 15, 3)) (kk : ∀ (H1 : Heap) (locs1 : List Loc), wB g classes A H0 w' H1 locs1 → W p l e R s m args below meth c H1 locs1 cells slots Q (F0 m (pc + 3) ls rest)) : W p l e R s m args below meth c H locs cells slots Q (F0 m pc ls (v :: .ref x :: rest)) := by
  subst hw
  exact va_putF C0.1 C0.2.1 C0.2.2.2.2.1 iw_TH t_TH t_TH_ok n_TH C0.2.2.2.1 C0.2.2.2.2.2.1 hB.1 hB.2.1 hB.2.2.1 q0 he rfl 1 (by decide) (C0.2.2.2.2.1 _ k_TH_15) (fun _ h => h) rfl hin rfl (by decide +kernel) hn hfit hl hdg (fun H1 locs1 hP hD hS => kk H1 locs1 ⟨hP, hD, hS, hB.2.2.2⟩)
theorem k_WS_134 : Cond.fieldLink R_WS 134 R_TH "empty" "[Z" ∈ gT := gT_in (List.mem_of_getElem? (i := 46) (by decide +kernel)) (by decide +kernel)
theorem gf_WS_134 (C0 : cX p m c cc nL s args R_WS g classes tys) (hP : va_P g classes w H) (q0 : Nat) (he : w[q0]? = some (x, .inr (1, fs))) (hv : fs[1]? = some v) (hdg : decode cc pc = .ok (.getfield 134, 3)) (kk : W p l e R s m args below meth c H locs cells slots Q (F0 m (pc + 3) ls (v :: rest))) : W p l e R s m args below meth c H locs cells slots Q (F0 m pc ls (.ref x :: rest)) :=
  va_get C0.1 C0.2.1 C0.2.2.2.2.1 iw_TH C0.2.2.2.1 C0.2.2.2.2.2.1 hP q0 he rfl 1 (by decide) (C0.2.2.2.2.1 _ k_WS_134) (fun _ h => h) hv hdg kk
-- no put of WS_134
theorem k_TH_19 : Cond.fieldLink R_TH 19 R_TH "barred" "[Z" ∈ gT := gT_in (List.mem_of_getElem? (i := 47) (by decide +kernel)) (by decide +kernel)
theorem gf_TH_19 (C0 : cX p m c cc nL s args R_TH g classes tys) (hP : va_P g classes w H) (q0 : Nat) (he : w[q0]? = some (x, .inr (1, fs))) (hv : fs[2]? = some v) (hdg : decode cc pc = .ok (.getfield 19, 3)) (kk : W p l e R s m args below meth c H locs cells slots Q (F0 m (pc + 3) ls (v :: rest))) : W p l e R s m args below meth c H locs cells slots Q (F0 m pc ls (.ref x :: rest)) :=
  va_get C0.1 C0.2.1 C0.2.2.2.2.1 iw_TH C0.2.2.2.1 C0.2.2.2.2.2.1 hP q0 he rfl 2 (by decide) (C0.2.2.2.2.1 _ k_TH_19) (fun _ h => h) hv hdg kk
theorem pf_TH_19 (C0 : cX p m c cc nL s args R_TH g classes tys) (hin : meth.name = "<init>") (hB : wB g classes A H0 w H locs) (q0 : Nat) (he : w[q0]? = some (x, .inr (1, fs))) (hl : 2 < fs.length) (hn : narrow (.array .boolean) v = v) (hfit : fits (.array .boolean) v = true) (hw : w.set q0 (x, .inr (1, fs.set 2 v)) = w') (hdg : decode cc pc = .ok (.putfield 19, 3)) (kk : ∀ (H1 : Heap) (locs1 : List Loc), wB g classes A H0 w' H1 locs1 → W p l e R s m args below meth c H1 locs1 cells slots Q (F0 m (pc + 3) ls rest)) : W p l e R s m args below meth c H locs cells slots Q (F0 m pc ls (v :: .ref x :: rest)) := by
  subst hw
  exact va_putF C0.1 C0.2.1 C0.2.2.2.2.1 iw_TH t_TH t_TH_ok n_TH C0.2.2.2.1 C0.2.2.2.2.2.1 hB.1 hB.2.1 hB.2.2.1 q0 he rfl 2 (by decide) (C0.2.2.2.2.1 _ k_TH_19) (fun _ h => h) rfl hin rfl (by decide +kernel) hn hfit hl hdg (fun H1 locs1 hP hD hS => kk H1 locs1 ⟨hP, hD, hS, hB.2.2.2⟩)
theorem k_SE_60 : Cond.fieldLink R_SE 60 R_TH "barred" "[Z" ∈ gT := gT_in (List.mem_of_getElem? (i := 48) (by decide +kernel)) (by decide +kernel)
theorem gf_SE_60 (C0 : cX p m c cc nL s args R_SE g classes tys) (hP : va_P g classes w H) (q0 : Nat) (he : w[q0]? = some (x, .inr (1, fs))) (hv : fs[2]? = some v) (hdg : decode cc pc = .ok (.getfield 60, 3)) (kk : W p l e R s m args below meth c H locs cells slots Q (F0 m (pc + 3) ls (v :: rest))) : W p l e R s m args below meth c H locs cells slots Q (F0 m pc ls (.ref x :: rest)) :=
  va_get C0.1 C0.2.1 C0.2.2.2.2.1 iw_TH C0.2.2.2.1 C0.2.2.2.2.2.1 hP q0 he rfl 2 (by decide) (C0.2.2.2.2.1 _ k_SE_60) (fun _ h => h) hv hdg kk
-- no put of SE_60
theorem k_WS_64 : Cond.fieldLink R_WS 64 R_TH "barred" "[Z" ∈ gT := gT_in (List.mem_of_getElem? (i := 49) (by decide +kernel)) (by decide +kernel)
theorem gf_WS_64 (C0 : cX p m c cc nL s args R_WS g classes tys) (hP : va_P g classes w H) (q0 : Nat) (he : w[q0]? = some (x, .inr (1, fs))) (hv : fs[2]? = some v) (hdg : decode cc pc = .ok (.getfield 64, 3)) (kk : W p l e R s m args below meth c H locs cells slots Q (F0 m (pc + 3) ls (v :: rest))) : W p l e R s m args below meth c H locs cells slots Q (F0 m pc ls (.ref x :: rest)) :=
  va_get C0.1 C0.2.1 C0.2.2.2.2.1 iw_TH C0.2.2.2.1 C0.2.2.2.2.2.1 hP q0 he rfl 2 (by decide) (C0.2.2.2.2.1 _ k_WS_64) (fun _ h => h) hv hdg kk
-- no put of WS_64
theorem k_TH_22 : Cond.fieldLink R_TH 22 R_TH "in" "[I" ∈ gT := gT_in (List.mem_of_getElem? (i := 50) (by decide +kernel)) (by decide +kernel)
theorem gf_TH_22 (C0 : cX p m c cc nL s args R_TH g classes tys) (hP : va_P g classes w H) (q0 : Nat) (he : w[q0]? = some (x, .inr (1, fs))) (hv : fs[3]? = some v) (hdg : decode cc pc = .ok (.getfield 22, 3)) (kk : W p l e R s m args below meth c H locs cells slots Q (F0 m (pc + 3) ls (v :: rest))) : W p l e R s m args below meth c H locs cells slots Q (F0 m pc ls (.ref x :: rest)) :=
  va_get C0.1 C0.2.1 C0.2.2.2.2.1 iw_TH C0.2.2.2.1 C0.2.2.2.2.2.1 hP q0 he rfl 3 (by decide) (C0.2.2.2.2.1 _ k_TH_22) (fun _ h => h) hv hdg kk
theorem pf_TH_22 (C0 : cX p m c cc nL s args R_TH g classes tys) (hin : meth.name = "<init>") (hB : wB g classes A H0 w H locs) (q0 : Nat) (he : w[q0]? = some (x, .inr (1, fs))) (hl : 3 < fs.length) (hn : narrow (.array .int) v = v) (hfit : fits (.array .int) v = true) (hw : w.set q0 (x, .inr (1, fs.set 3 v)) = w') (hdg : decode cc pc = .ok (.putfield 22, 3)) (kk : ∀ (H1 : Heap) (locs1 : List Loc), wB g classes A H0 w' H1 locs1 → W p l e R s m args below meth c H1 locs1 cells slots Q (F0 m (pc + 3) ls rest)) : W p l e R s m args below meth c H locs cells slots Q (F0 m pc ls (v :: .ref x :: rest)) := by
  subst hw
  exact va_putF C0.1 C0.2.1 C0.2.2.2.2.1 iw_TH t_TH t_TH_ok n_TH C0.2.2.2.1 C0.2.2.2.2.2.1 hB.1 hB.2.1 hB.2.2.1 q0 he rfl 3 (by decide) (C0.2.2.2.2.1 _ k_TH_22) (fun _ h => h) rfl hin rfl (by decide +kernel) hn hfit hl hdg (fun H1 locs1 hP hD hS => kk H1 locs1 ⟨hP, hD, hS, hB.2.2.2⟩)
theorem k_WS_120 : Cond.fieldLink R_WS 120 R_TH "in" "[I" ∈ gT := gT_in (List.mem_of_getElem? (i := 51) (by decide +kernel)) (by decide +kernel)
theorem gf_WS_120 (C0 : cX p m c cc nL s args R_WS g classes tys) (hP : va_P g classes w H) (q0 : Nat) (he : w[q0]? = some (x, .inr (1, fs))) (hv : fs[3]? = some v) (hdg : decode cc pc = .ok (.getfield 120, 3)) (kk : W p l e R s m args below meth c H locs cells slots Q (F0 m (pc + 3) ls (v :: rest))) : W p l e R s m args below meth c H locs cells slots Q (F0 m pc ls (.ref x :: rest)) :=
  va_get C0.1 C0.2.1 C0.2.2.2.2.1 iw_TH C0.2.2.2.1 C0.2.2.2.2.2.1 hP q0 he rfl 3 (by decide) (C0.2.2.2.2.1 _ k_WS_120) (fun _ h => h) hv hdg kk
-- no put of WS_120
theorem k_TH_25 : Cond.fieldLink R_TH 25 R_TH "out" "[I" ∈ gT := gT_in (List.mem_of_getElem? (i := 52) (by decide +kernel)) (by decide +kernel)
theorem gf_TH_25 (C0 : cX p m c cc nL s args R_TH g classes tys) (hP : va_P g classes w H) (q0 : Nat) (he : w[q0]? = some (x, .inr (1, fs))) (hv : fs[4]? = some v) (hdg : decode cc pc = .ok (.getfield 25, 3)) (kk : W p l e R s m args below meth c H locs cells slots Q (F0 m (pc + 3) ls (v :: rest))) : W p l e R s m args below meth c H locs cells slots Q (F0 m pc ls (.ref x :: rest)) :=
  va_get C0.1 C0.2.1 C0.2.2.2.2.1 iw_TH C0.2.2.2.1 C0.2.2.2.2.2.1 hP q0 he rfl 4 (by decide) (C0.2.2.2.2.1 _ k_TH_25) (fun _ h => h) hv hdg kk
theorem pf_TH_25 (C0 : cX p m c cc nL s args R_TH g classes tys) (hin : meth.name = "<init>") (hB : wB g classes A H0 w H locs) (q0 : Nat) (he : w[q0]? = some (x, .inr (1, fs))) (hl : 4 < fs.length) (hn : narrow (.array .int) v = v) (hfit : fits (.array .int) v = true) (hw : w.set q0 (x, .inr (1, fs.set 4 v)) = w') (hdg : decode cc pc = .ok (.putfield 25, 3)) (kk : ∀ (H1 : Heap) (locs1 : List Loc), wB g classes A H0 w' H1 locs1 → W p l e R s m args below meth c H1 locs1 cells slots Q (F0 m (pc + 3) ls rest)) : W p l e R s m args below meth c H locs cells slots Q (F0 m pc ls (v :: .ref x :: rest)) := by
  subst hw
  exact va_putF C0.1 C0.2.1 C0.2.2.2.2.1 iw_TH t_TH t_TH_ok n_TH C0.2.2.2.1 C0.2.2.2.2.2.1 hB.1 hB.2.1 hB.2.2.1 q0 he rfl 4 (by decide) (C0.2.2.2.2.1 _ k_TH_25) (fun _ h => h) rfl hin rfl (by decide +kernel) hn hfit hl hdg (fun H1 locs1 hP hD hS => kk H1 locs1 ⟨hP, hD, hS, hB.2.2.2⟩)
theorem k_WS_123 : Cond.fieldLink R_WS 123 R_TH "out" "[I" ∈ gT := gT_in (List.mem_of_getElem? (i := 53) (by decide +kernel)) (by decide +kernel)
theorem gf_WS_123 (C0 : cX p m c cc nL s args R_WS g classes tys) (hP : va_P g classes w H) (q0 : Nat) (he : w[q0]? = some (x, .inr (1, fs))) (hv : fs[4]? = some v) (hdg : decode cc pc = .ok (.getfield 123, 3)) (kk : W p l e R s m args below meth c H locs cells slots Q (F0 m (pc + 3) ls (v :: rest))) : W p l e R s m args below meth c H locs cells slots Q (F0 m pc ls (.ref x :: rest)) :=
  va_get C0.1 C0.2.1 C0.2.2.2.2.1 iw_TH C0.2.2.2.1 C0.2.2.2.2.2.1 hP q0 he rfl 4 (by decide) (C0.2.2.2.2.1 _ k_WS_123) (fun _ h => h) hv hdg kk
-- no put of WS_123
theorem k_TH_28 : Cond.fieldLink R_TH 28 R_TH "count" "I" ∈ gT := gT_in (List.mem_of_getElem? (i := 54) (by decide +kernel)) (by decide +kernel)
theorem gf_TH_28 (C0 : cX p m c cc nL s args R_TH g classes tys) (hP : va_P g classes w H) (q0 : Nat) (he : w[q0]? = some (x, .inr (1, fs))) (hv : fs[5]? = some v) (hdg : decode cc pc = .ok (.getfield 28, 3)) (kk : W p l e R s m args below meth c H locs cells slots Q (F0 m (pc + 3) ls (v :: rest))) : W p l e R s m args below meth c H locs cells slots Q (F0 m pc ls (.ref x :: rest)) :=
  va_get C0.1 C0.2.1 C0.2.2.2.2.1 iw_TH C0.2.2.2.1 C0.2.2.2.2.2.1 hP q0 he rfl 5 (by decide) (C0.2.2.2.2.1 _ k_TH_28) (fun _ h => h) hv hdg kk
theorem pf_TH_28 (C0 : cX p m c cc nL s args R_TH g classes tys) (hB : wB g classes A H0 w H locs) (q0 : Nat) (he : w[q0]? = some (x, .inr (1, fs))) (hl : 5 < fs.length) (hn : narrow .int v = v) (hfit : fits .int v = true) (hw : w.set q0 (x, .inr (1, fs.set 5 v)) = w') (hdg : decode cc pc = .ok (.putfield 28, 3)) (kk : ∀ (H1 : Heap) (locs1 : List Loc), wB g classes A H0 w' H1 locs1 → W p l e R s m args below meth c H1 locs1 cells slots Q (F0 m (pc + 3) ls rest)) : W p l e R s m args below meth c H locs cells slots Q (F0 m pc ls (v :: .ref x :: rest)) := by
  subst hw
  exact va_put C0.1 C0.2.1 C0.2.2.2.2.1 iw_TH t_TH t_TH_ok n_TH C0.2.2.2.1 C0.2.2.2.2.2.1 hB.1 hB.2.1 hB.2.2.1 q0 he rfl 5 (by decide) (C0.2.2.2.2.1 _ k_TH_28) (fun _ h => h) rfl (by decide +kernel) hn hfit hl hdg (fun H1 locs1 hP hD hS => kk H1 locs1 ⟨hP, hD, hS, hB.2.2.2⟩)
theorem k_SE_55 : Cond.fieldLink R_SE 55 R_TH "count" "I" ∈ gT := gT_in (List.mem_of_getElem? (i := 55) (by decide +kernel)) (by decide +kernel)
theorem gf_SE_55 (C0 : cX p m c cc nL s args R_SE g classes tys) (hP : va_P g classes w H) (q0 : Nat) (he : w[q0]? = some (x, .inr (1, fs))) (hv : fs[5]? = some v) (hdg : decode cc pc = .ok (.getfield 55, 3)) (kk : W p l e R s m args below meth c H locs cells slots Q (F0 m (pc + 3) ls (v :: rest))) : W p l e R s m args below meth c H locs cells slots Q (F0 m pc ls (.ref x :: rest)) :=
  va_get C0.1 C0.2.1 C0.2.2.2.2.1 iw_TH C0.2.2.2.1 C0.2.2.2.2.2.1 hP q0 he rfl 5 (by decide) (C0.2.2.2.2.1 _ k_SE_55) (fun _ h => h) hv hdg kk
theorem pf_SE_55 (C0 : cX p m c cc nL s args R_SE g classes tys) (hB : wB g classes A H0 w H locs) (q0 : Nat) (he : w[q0]? = some (x, .inr (1, fs))) (hl : 5 < fs.length) (hn : narrow .int v = v) (hfit : fits .int v = true) (hw : w.set q0 (x, .inr (1, fs.set 5 v)) = w') (hdg : decode cc pc = .ok (.putfield 55, 3)) (kk : ∀ (H1 : Heap) (locs1 : List Loc), wB g classes A H0 w' H1 locs1 → W p l e R s m args below meth c H1 locs1 cells slots Q (F0 m (pc + 3) ls rest)) : W p l e R s m args below meth c H locs cells slots Q (F0 m pc ls (v :: .ref x :: rest)) := by
  subst hw
  exact va_put C0.1 C0.2.1 C0.2.2.2.2.1 iw_TH t_TH t_TH_ok n_TH C0.2.2.2.1 C0.2.2.2.2.2.1 hB.1 hB.2.1 hB.2.2.1 q0 he rfl 5 (by decide) (C0.2.2.2.2.1 _ k_SE_55) (fun _ h => h) rfl (by decide +kernel) hn hfit hl hdg (fun H1 locs1 hP hD hS => kk H1 locs1 ⟨hP, hD, hS, hB.2.2.2⟩)
theorem k_WS_126 : Cond.fieldLink R_WS 126 R_TH "count" "I" ∈ gT := gT_in (List.mem_of_getElem? (i := 56) (by decide +kernel)) (by decide +kernel)
theorem gf_WS_126 (C0 : cX p m c cc nL s args R_WS g classes tys) (hP : va_P g classes w H) (q0 : Nat) (he : w[q0]? = some (x, .inr (1, fs))) (hv : fs[5]? = some v) (hdg : decode cc pc = .ok (.getfield 126, 3)) (kk : W p l e R s m args below meth c H locs cells slots Q (F0 m (pc + 3) ls (v :: rest))) : W p l e R s m args below meth c H locs cells slots Q (F0 m pc ls (.ref x :: rest)) :=
  va_get C0.1 C0.2.1 C0.2.2.2.2.1 iw_TH C0.2.2.2.1 C0.2.2.2.2.2.1 hP q0 he rfl 5 (by decide) (C0.2.2.2.2.1 _ k_WS_126) (fun _ h => h) hv hdg kk
theorem pf_WS_126 (C0 : cX p m c cc nL s args R_WS g classes tys) (hB : wB g classes A H0 w H locs) (q0 : Nat) (he : w[q0]? = some (x, .inr (1, fs))) (hl : 5 < fs.length) (hn : narrow .int v = v) (hfit : fits .int v = true) (hw : w.set q0 (x, .inr (1, fs.set 5 v)) = w') (hdg : decode cc pc = .ok (.putfield 126, 3)) (kk : ∀ (H1 : Heap) (locs1 : List Loc), wB g classes A H0 w' H1 locs1 → W p l e R s m args below meth c H1 locs1 cells slots Q (F0 m (pc + 3) ls rest)) : W p l e R s m args below meth c H locs cells slots Q (F0 m pc ls (v :: .ref x :: rest)) := by
  subst hw
  exact va_put C0.1 C0.2.1 C0.2.2.2.2.1 iw_TH t_TH t_TH_ok n_TH C0.2.2.2.1 C0.2.2.2.2.2.1 hB.1 hB.2.1 hB.2.2.1 q0 he rfl 5 (by decide) (C0.2.2.2.2.1 _ k_WS_126) (fun _ h => h) rfl (by decide +kernel) hn hfit hl hdg (fun H1 locs1 hP hD hS => kk H1 locs1 ⟨hP, hD, hS, hB.2.2.2⟩)
theorem k_arr_int : Cond.arrayClass .int ∈ gT := gT_in (List.mem_of_getElem? (i := 70) (by decide +kernel)) (by decide +kernel)
theorem k_arr_boolean : Cond.arrayClass .boolean ∈ gT := gT_in (List.mem_of_getElem? (i := 71) (by decide +kernel)) (by decide +kernel)
theorem k_WS_16 : Cond.classLink R_WS 16 R_PI ∈ gT := gT_in (List.mem_of_getElem? (i := 72) (by decide +kernel)) (by decide +kernel)
theorem k_inst_PI : Cond.instantiable R_PI 5 ∈ gT := gT_in (List.mem_of_getElem? (i := 73) (by decide +kernel)) (by decide +kernel)
theorem k_PI_9 : Cond.fieldLink R_PI 9 R_PI "endA" "[I" ∈ gT := gT_in (List.mem_of_getElem? (i := 78) (by decide +kernel)) (by decide +kernel)
theorem gf_PI_9 (C0 : cX p m c cc nL s args R_PI g classes tys) (hP : va_P g classes w H) (q0 : Nat) (he : w[q0]? = some (x, .inr (2, fs))) (hv : fs[0]? = some v) (hdg : decode cc pc = .ok (.getfield 9, 3)) (kk : W p l e R s m args below meth c H locs cells slots Q (F0 m (pc + 3) ls (v :: rest))) : W p l e R s m args below meth c H locs cells slots Q (F0 m pc ls (.ref x :: rest)) :=
  va_get C0.1 C0.2.1 C0.2.2.2.2.1 iw_PI C0.2.2.2.1 C0.2.2.2.2.2.1 hP q0 he rfl 0 (by decide) (C0.2.2.2.2.1 _ k_PI_9) (fun _ h => h) hv hdg kk
theorem pf_PI_9 (C0 : cX p m c cc nL s args R_PI g classes tys) (hin : meth.name = "<init>") (hB : wB g classes A H0 w H locs) (q0 : Nat) (he : w[q0]? = some (x, .inr (2, fs))) (hl : 0 < fs.length) (hn : narrow (.array .int) v = v) (hfit : fits (.array .int) v = true) (hw : w.set q0 (x, .inr (2, fs.set 0 v)) = w') (hdg : decode cc pc = .ok (.putfield 9, 3)) (kk : ∀ (H1 : Heap) (locs1 : List Loc), wB g classes A H0 w' H1 locs1 → W p l e R s m args below meth c H1 locs1 cells slots Q (F0 m (pc + 3) ls rest)) : W p l e R s m args below meth c H locs cells slots Q (F0 m pc ls (v :: .ref x :: rest)) := by
  subst hw
  exact va_putF C0.1 C0.2.1 C0.2.2.2.2.1 iw_PI t_PI t_PI_ok n_PI C0.2.2.2.1 C0.2.2.2.2.2.1 hB.1 hB.2.1 hB.2.2.1 q0 he rfl 0 (by decide) (C0.2.2.2.2.1 _ k_PI_9) (fun _ h => h) rfl hin rfl (by decide +kernel) hn hfit hl hdg (fun H1 locs1 hP hD hS => kk H1 locs1 ⟨hP, hD, hS, hB.2.2.2⟩)
theorem k_SE_69 : Cond.fieldLink R_SE 69 R_PI "endA" "[I" ∈ gT := gT_in (List.mem_of_getElem? (i := 79) (by decide +kernel)) (by decide +kernel)
theorem gf_SE_69 (C0 : cX p m c cc nL s args R_SE g classes tys) (hP : va_P g classes w H) (q0 : Nat) (he : w[q0]? = some (x, .inr (2, fs))) (hv : fs[0]? = some v) (hdg : decode cc pc = .ok (.getfield 69, 3)) (kk : W p l e R s m args below meth c H locs cells slots Q (F0 m (pc + 3) ls (v :: rest))) : W p l e R s m args below meth c H locs cells slots Q (F0 m pc ls (.ref x :: rest)) :=
  va_get C0.1 C0.2.1 C0.2.2.2.2.1 iw_PI C0.2.2.2.1 C0.2.2.2.2.2.1 hP q0 he rfl 0 (by decide) (C0.2.2.2.2.1 _ k_SE_69) (fun _ h => h) hv hdg kk
-- no put of SE_69
theorem k_PI_15 : Cond.fieldLink R_PI 15 R_PI "endB" "[I" ∈ gT := gT_in (List.mem_of_getElem? (i := 80) (by decide +kernel)) (by decide +kernel)
theorem gf_PI_15 (C0 : cX p m c cc nL s args R_PI g classes tys) (hP : va_P g classes w H) (q0 : Nat) (he : w[q0]? = some (x, .inr (2, fs))) (hv : fs[1]? = some v) (hdg : decode cc pc = .ok (.getfield 15, 3)) (kk : W p l e R s m args below meth c H locs cells slots Q (F0 m (pc + 3) ls (v :: rest))) : W p l e R s m args below meth c H locs cells slots Q (F0 m pc ls (.ref x :: rest)) :=
  va_get C0.1 C0.2.1 C0.2.2.2.2.1 iw_PI C0.2.2.2.1 C0.2.2.2.2.2.1 hP q0 he rfl 1 (by decide) (C0.2.2.2.2.1 _ k_PI_15) (fun _ h => h) hv hdg kk
theorem pf_PI_15 (C0 : cX p m c cc nL s args R_PI g classes tys) (hin : meth.name = "<init>") (hB : wB g classes A H0 w H locs) (q0 : Nat) (he : w[q0]? = some (x, .inr (2, fs))) (hl : 1 < fs.length) (hn : narrow (.array .int) v = v) (hfit : fits (.array .int) v = true) (hw : w.set q0 (x, .inr (2, fs.set 1 v)) = w') (hdg : decode cc pc = .ok (.putfield 15, 3)) (kk : ∀ (H1 : Heap) (locs1 : List Loc), wB g classes A H0 w' H1 locs1 → W p l e R s m args below meth c H1 locs1 cells slots Q (F0 m (pc + 3) ls rest)) : W p l e R s m args below meth c H locs cells slots Q (F0 m pc ls (v :: .ref x :: rest)) := by
  subst hw
  exact va_putF C0.1 C0.2.1 C0.2.2.2.2.1 iw_PI t_PI t_PI_ok n_PI C0.2.2.2.1 C0.2.2.2.2.2.1 hB.1 hB.2.1 hB.2.2.1 q0 he rfl 1 (by decide) (C0.2.2.2.2.1 _ k_PI_15) (fun _ h => h) rfl hin rfl (by decide +kernel) hn hfit hl hdg (fun H1 locs1 hP hD hS => kk H1 locs1 ⟨hP, hD, hS, hB.2.2.2⟩)
theorem k_SE_76 : Cond.fieldLink R_SE 76 R_PI "endB" "[I" ∈ gT := gT_in (List.mem_of_getElem? (i := 81) (by decide +kernel)) (by decide +kernel)
theorem gf_SE_76 (C0 : cX p m c cc nL s args R_SE g classes tys) (hP : va_P g classes w H) (q0 : Nat) (he : w[q0]? = some (x, .inr (2, fs))) (hv : fs[1]? = some v) (hdg : decode cc pc = .ok (.getfield 76, 3)) (kk : W p l e R s m args below meth c H locs cells slots Q (F0 m (pc + 3) ls (v :: rest))) : W p l e R s m args below meth c H locs cells slots Q (F0 m pc ls (.ref x :: rest)) :=
  va_get C0.1 C0.2.1 C0.2.2.2.2.1 iw_PI C0.2.2.2.1 C0.2.2.2.2.2.1 hP q0 he rfl 1 (by decide) (C0.2.2.2.2.1 _ k_SE_76) (fun _ h => h) hv hdg kk
-- no put of SE_76
theorem k_PI_18 : Cond.fieldLink R_PI 18 R_PI "litres" "[J" ∈ gT := gT_in (List.mem_of_getElem? (i := 82) (by decide +kernel)) (by decide +kernel)
theorem gf_PI_18 (C0 : cX p m c cc nL s args R_PI g classes tys) (hP : va_P g classes w H) (q0 : Nat) (he : w[q0]? = some (x, .inr (2, fs))) (hv : fs[2]? = some v) (hdg : decode cc pc = .ok (.getfield 18, 3)) (kk : W p l e R s m args below meth c H locs cells slots Q (F0 m (pc + 3) ls (v :: rest))) : W p l e R s m args below meth c H locs cells slots Q (F0 m pc ls (.ref x :: rest)) :=
  va_get C0.1 C0.2.1 C0.2.2.2.2.1 iw_PI C0.2.2.2.1 C0.2.2.2.2.2.1 hP q0 he rfl 2 (by decide) (C0.2.2.2.2.1 _ k_PI_18) (fun _ h => h) hv hdg kk
theorem pf_PI_18 (C0 : cX p m c cc nL s args R_PI g classes tys) (hin : meth.name = "<init>") (hB : wB g classes A H0 w H locs) (q0 : Nat) (he : w[q0]? = some (x, .inr (2, fs))) (hl : 2 < fs.length) (hn : narrow (.array .long) v = v) (hfit : fits (.array .long) v = true) (hw : w.set q0 (x, .inr (2, fs.set 2 v)) = w') (hdg : decode cc pc = .ok (.putfield 18, 3)) (kk : ∀ (H1 : Heap) (locs1 : List Loc), wB g classes A H0 w' H1 locs1 → W p l e R s m args below meth c H1 locs1 cells slots Q (F0 m (pc + 3) ls rest)) : W p l e R s m args below meth c H locs cells slots Q (F0 m pc ls (v :: .ref x :: rest)) := by
  subst hw
  exact va_putF C0.1 C0.2.1 C0.2.2.2.2.1 iw_PI t_PI t_PI_ok n_PI C0.2.2.2.1 C0.2.2.2.2.2.1 hB.1 hB.2.1 hB.2.2.1 q0 he rfl 2 (by decide) (C0.2.2.2.2.1 _ k_PI_18) (fun _ h => h) rfl hin rfl (by decide +kernel) hn hfit hl hdg (fun H1 locs1 hP hD hS => kk H1 locs1 ⟨hP, hD, hS, hB.2.2.2⟩)
theorem k_SE_116 : Cond.fieldLink R_SE 116 R_PI "litres" "[J" ∈ gT := gT_in (List.mem_of_getElem? (i := 83) (by decide +kernel)) (by decide +kernel)
theorem gf_SE_116 (C0 : cX p m c cc nL s args R_SE g classes tys) (hP : va_P g classes w H) (q0 : Nat) (he : w[q0]? = some (x, .inr (2, fs))) (hv : fs[2]? = some v) (hdg : decode cc pc = .ok (.getfield 116, 3)) (kk : W p l e R s m args below meth c H locs cells slots Q (F0 m (pc + 3) ls (v :: rest))) : W p l e R s m args below meth c H locs cells slots Q (F0 m pc ls (.ref x :: rest)) :=
  va_get C0.1 C0.2.1 C0.2.2.2.2.1 iw_PI C0.2.2.2.1 C0.2.2.2.2.2.1 hP q0 he rfl 2 (by decide) (C0.2.2.2.2.1 _ k_SE_116) (fun _ h => h) hv hdg kk
-- no put of SE_116
theorem k_PI_22 : Cond.fieldLink R_PI 22 R_PI "runs" "[Z" ∈ gT := gT_in (List.mem_of_getElem? (i := 84) (by decide +kernel)) (by decide +kernel)
theorem gf_PI_22 (C0 : cX p m c cc nL s args R_PI g classes tys) (hP : va_P g classes w H) (q0 : Nat) (he : w[q0]? = some (x, .inr (2, fs))) (hv : fs[3]? = some v) (hdg : decode cc pc = .ok (.getfield 22, 3)) (kk : W p l e R s m args below meth c H locs cells slots Q (F0 m (pc + 3) ls (v :: rest))) : W p l e R s m args below meth c H locs cells slots Q (F0 m pc ls (.ref x :: rest)) :=
  va_get C0.1 C0.2.1 C0.2.2.2.2.1 iw_PI C0.2.2.2.1 C0.2.2.2.2.2.1 hP q0 he rfl 3 (by decide) (C0.2.2.2.2.1 _ k_PI_22) (fun _ h => h) hv hdg kk
theorem pf_PI_22 (C0 : cX p m c cc nL s args R_PI g classes tys) (hin : meth.name = "<init>") (hB : wB g classes A H0 w H locs) (q0 : Nat) (he : w[q0]? = some (x, .inr (2, fs))) (hl : 3 < fs.length) (hn : narrow (.array .boolean) v = v) (hfit : fits (.array .boolean) v = true) (hw : w.set q0 (x, .inr (2, fs.set 3 v)) = w') (hdg : decode cc pc = .ok (.putfield 22, 3)) (kk : ∀ (H1 : Heap) (locs1 : List Loc), wB g classes A H0 w' H1 locs1 → W p l e R s m args below meth c H1 locs1 cells slots Q (F0 m (pc + 3) ls rest)) : W p l e R s m args below meth c H locs cells slots Q (F0 m pc ls (v :: .ref x :: rest)) := by
  subst hw
  exact va_putF C0.1 C0.2.1 C0.2.2.2.2.1 iw_PI t_PI t_PI_ok n_PI C0.2.2.2.1 C0.2.2.2.2.2.1 hB.1 hB.2.1 hB.2.2.1 q0 he rfl 3 (by decide) (C0.2.2.2.2.1 _ k_PI_22) (fun _ h => h) rfl hin rfl (by decide +kernel) hn hfit hl hdg (fun H1 locs1 hP hD hS => kk H1 locs1 ⟨hP, hD, hS, hB.2.2.2⟩)
theorem k_SE_66 : Cond.fieldLink R_SE 66 R_PI "runs" "[Z" ∈ gT := gT_in (List.mem_of_getElem? (i := 85) (by decide +kernel)) (by decide +kernel)
theorem gf_SE_66 (C0 : cX p m c cc nL s args R_SE g classes tys) (hP : va_P g classes w H) (q0 : Nat) (he : w[q0]? = some (x, .inr (2, fs))) (hv : fs[3]? = some v) (hdg : decode cc pc = .ok (.getfield 66, 3)) (kk : W p l e R s m args below meth c H locs cells slots Q (F0 m (pc + 3) ls (v :: rest))) : W p l e R s m args below meth c H locs cells slots Q (F0 m pc ls (.ref x :: rest)) :=
  va_get C0.1 C0.2.1 C0.2.2.2.2.1 iw_PI C0.2.2.2.1 C0.2.2.2.2.2.1 hP q0 he rfl 3 (by decide) (C0.2.2.2.2.1 _ k_SE_66) (fun _ h => h) hv hdg kk
-- no put of SE_66
theorem k_WS_56 : Cond.fieldLink R_WS 56 R_PI "runs" "[Z" ∈ gT := gT_in (List.mem_of_getElem? (i := 86) (by decide +kernel)) (by decide +kernel)
theorem gf_WS_56 (C0 : cX p m c cc nL s args R_WS g classes tys) (hP : va_P g classes w H) (q0 : Nat) (he : w[q0]? = some (x, .inr (2, fs))) (hv : fs[3]? = some v) (hdg : decode cc pc = .ok (.getfield 56, 3)) (kk : W p l e R s m args below meth c H locs cells slots Q (F0 m (pc + 3) ls (v :: rest))) : W p l e R s m args below meth c H locs cells slots Q (F0 m pc ls (.ref x :: rest)) :=
  va_get C0.1 C0.2.1 C0.2.2.2.2.1 iw_PI C0.2.2.2.1 C0.2.2.2.2.2.1 hP q0 he rfl 3 (by decide) (C0.2.2.2.2.1 _ k_WS_56) (fun _ h => h) hv hdg kk
-- no put of WS_56
theorem k_PI_26 : Cond.fieldLink R_PI 26 R_PI "count" "I" ∈ gT := gT_in (List.mem_of_getElem? (i := 87) (by decide +kernel)) (by decide +kernel)
theorem gf_PI_26 (C0 : cX p m c cc nL s args R_PI g classes tys) (hP : va_P g classes w H) (q0 : Nat) (he : w[q0]? = some (x, .inr (2, fs))) (hv : fs[4]? = some v) (hdg : decode cc pc = .ok (.getfield 26, 3)) (kk : W p l e R s m args below meth c H locs cells slots Q (F0 m (pc + 3) ls (v :: rest))) : W p l e R s m args below meth c H locs cells slots Q (F0 m pc ls (.ref x :: rest)) :=
  va_get C0.1 C0.2.1 C0.2.2.2.2.1 iw_PI C0.2.2.2.1 C0.2.2.2.2.2.1 hP q0 he rfl 4 (by decide) (C0.2.2.2.2.1 _ k_PI_26) (fun _ h => h) hv hdg kk
theorem pf_PI_26 (C0 : cX p m c cc nL s args R_PI g classes tys) (hB : wB g classes A H0 w H locs) (q0 : Nat) (he : w[q0]? = some (x, .inr (2, fs))) (hl : 4 < fs.length) (hn : narrow .int v = v) (hfit : fits .int v = true) (hw : w.set q0 (x, .inr (2, fs.set 4 v)) = w') (hdg : decode cc pc = .ok (.putfield 26, 3)) (kk : ∀ (H1 : Heap) (locs1 : List Loc), wB g classes A H0 w' H1 locs1 → W p l e R s m args below meth c H1 locs1 cells slots Q (F0 m (pc + 3) ls rest)) : W p l e R s m args below meth c H locs cells slots Q (F0 m pc ls (v :: .ref x :: rest)) := by
  subst hw
  exact va_put C0.1 C0.2.1 C0.2.2.2.2.1 iw_PI t_PI t_PI_ok n_PI C0.2.2.2.1 C0.2.2.2.2.2.1 hB.1 hB.2.1 hB.2.2.1 q0 he rfl 4 (by decide) (C0.2.2.2.2.1 _ k_PI_26) (fun _ h => h) rfl (by decide +kernel) hn hfit hl hdg (fun H1 locs1 hP hD hS => kk H1 locs1 ⟨hP, hD, hS, hB.2.2.2⟩)
theorem k_SE_63 : Cond.fieldLink R_SE 63 R_PI "count" "I" ∈ gT := gT_in (List.mem_of_getElem? (i := 88) (by decide +kernel)) (by decide +kernel)
theorem gf_SE_63 (C0 : cX p m c cc nL s args R_SE g classes tys) (hP : va_P g classes w H) (q0 : Nat) (he : w[q0]? = some (x, .inr (2, fs))) (hv : fs[4]? = some v) (hdg : decode cc pc = .ok (.getfield 63, 3)) (kk : W p l e R s m args below meth c H locs cells slots Q (F0 m (pc + 3) ls (v :: rest))) : W p l e R s m args below meth c H locs cells slots Q (F0 m pc ls (.ref x :: rest)) :=
  va_get C0.1 C0.2.1 C0.2.2.2.2.1 iw_PI C0.2.2.2.1 C0.2.2.2.2.2.1 hP q0 he rfl 4 (by decide) (C0.2.2.2.2.1 _ k_SE_63) (fun _ h => h) hv hdg kk
theorem pf_SE_63 (C0 : cX p m c cc nL s args R_SE g classes tys) (hB : wB g classes A H0 w H locs) (q0 : Nat) (he : w[q0]? = some (x, .inr (2, fs))) (hl : 4 < fs.length) (hn : narrow .int v = v) (hfit : fits .int v = true) (hw : w.set q0 (x, .inr (2, fs.set 4 v)) = w') (hdg : decode cc pc = .ok (.putfield 63, 3)) (kk : ∀ (H1 : Heap) (locs1 : List Loc), wB g classes A H0 w' H1 locs1 → W p l e R s m args below meth c H1 locs1 cells slots Q (F0 m (pc + 3) ls rest)) : W p l e R s m args below meth c H locs cells slots Q (F0 m pc ls (v :: .ref x :: rest)) := by
  subst hw
  exact va_put C0.1 C0.2.1 C0.2.2.2.2.1 iw_PI t_PI t_PI_ok n_PI C0.2.2.2.1 C0.2.2.2.2.2.1 hB.1 hB.2.1 hB.2.2.1 q0 he rfl 4 (by decide) (C0.2.2.2.2.1 _ k_SE_63) (fun _ h => h) rfl (by decide +kernel) hn hfit hl hdg (fun H1 locs1 hP hD hS => kk H1 locs1 ⟨hP, hD, hS, hB.2.2.2⟩)
theorem k_WS_129 : Cond.fieldLink R_WS 129 R_PI "count" "I" ∈ gT := gT_in (List.mem_of_getElem? (i := 89) (by decide +kernel)) (by decide +kernel)
theorem gf_WS_129 (C0 : cX p m c cc nL s args R_WS g classes tys) (hP : va_P g classes w H) (q0 : Nat) (he : w[q0]? = some (x, .inr (2, fs))) (hv : fs[4]? = some v) (hdg : decode cc pc = .ok (.getfield 129, 3)) (kk : W p l e R s m args below meth c H locs cells slots Q (F0 m (pc + 3) ls (v :: rest))) : W p l e R s m args below meth c H locs cells slots Q (F0 m pc ls (.ref x :: rest)) :=
  va_get C0.1 C0.2.1 C0.2.2.2.2.1 iw_PI C0.2.2.2.1 C0.2.2.2.2.2.1 hP q0 he rfl 4 (by decide) (C0.2.2.2.2.1 _ k_WS_129) (fun _ h => h) hv hdg kk
theorem pf_WS_129 (C0 : cX p m c cc nL s args R_WS g classes tys) (hB : wB g classes A H0 w H locs) (q0 : Nat) (he : w[q0]? = some (x, .inr (2, fs))) (hl : 4 < fs.length) (hn : narrow .int v = v) (hfit : fits .int v = true) (hw : w.set q0 (x, .inr (2, fs.set 4 v)) = w') (hdg : decode cc pc = .ok (.putfield 129, 3)) (kk : ∀ (H1 : Heap) (locs1 : List Loc), wB g classes A H0 w' H1 locs1 → W p l e R s m args below meth c H1 locs1 cells slots Q (F0 m (pc + 3) ls rest)) : W p l e R s m args below meth c H locs cells slots Q (F0 m pc ls (v :: .ref x :: rest)) := by
  subst hw
  exact va_put C0.1 C0.2.1 C0.2.2.2.2.1 iw_PI t_PI t_PI_ok n_PI C0.2.2.2.1 C0.2.2.2.2.2.1 hB.1 hB.2.1 hB.2.2.1 q0 he rfl 4 (by decide) (C0.2.2.2.2.1 _ k_WS_129) (fun _ h => h) rfl (by decide +kernel) hn hfit hl hdg (fun H1 locs1 hP hD hS => kk H1 locs1 ⟨hP, hD, hS, hB.2.2.2⟩)
theorem k_arr_long : Cond.arrayClass .long ∈ gT := gT_in (List.mem_of_getElem? (i := 101) (by decide +kernel)) (by decide +kernel)
theorem k_WS_23 : Cond.classLink R_WS 23 R_SE ∈ gT := gT_in (List.mem_of_getElem? (i := 102) (by decide +kernel)) (by decide +kernel)
theorem k_inst_SE : Cond.instantiable R_SE 12 ∈ gT := gT_in (List.mem_of_getElem? (i := 103) (by decide +kernel)) (by decide +kernel)
theorem k_SE_47 : Cond.fieldLink R_SE 47 R_SE "things" "LWaySearch$Things;" ∈ gT := gT_in (List.mem_of_getElem? (i := 108) (by decide +kernel)) (by decide +kernel)
theorem gf_SE_47 (C0 : cX p m c cc nL s args R_SE g classes tys) (hP : va_P g classes w H) (q0 : Nat) (he : w[q0]? = some (x, .inr (3, fs))) (hv : fs[0]? = some v) (hdg : decode cc pc = .ok (.getfield 47, 3)) (kk : W p l e R s m args below meth c H locs cells slots Q (F0 m (pc + 3) ls (v :: rest))) : W p l e R s m args below meth c H locs cells slots Q (F0 m pc ls (.ref x :: rest)) :=
  va_get C0.1 C0.2.1 C0.2.2.2.2.1 iw_SE C0.2.2.2.1 C0.2.2.2.2.2.1 hP q0 he rfl 0 (by decide) (C0.2.2.2.2.1 _ k_SE_47) (fun _ h => h) hv hdg kk
theorem pf_SE_47 (C0 : cX p m c cc nL s args R_SE g classes tys) (hin : meth.name = "<init>") (hB : wB g classes A H0 w H locs) (q0 : Nat) (he : w[q0]? = some (x, .inr (3, fs))) (hl : 0 < fs.length) (hn : narrow (.object "WaySearch$Things") v = v) (hfit : fits (.object "WaySearch$Things") v = true) (hw : w.set q0 (x, .inr (3, fs.set 0 v)) = w') (hdg : decode cc pc = .ok (.putfield 47, 3)) (kk : ∀ (H1 : Heap) (locs1 : List Loc), wB g classes A H0 w' H1 locs1 → W p l e R s m args below meth c H1 locs1 cells slots Q (F0 m (pc + 3) ls rest)) : W p l e R s m args below meth c H locs cells slots Q (F0 m pc ls (v :: .ref x :: rest)) := by
  subst hw
  exact va_putF C0.1 C0.2.1 C0.2.2.2.2.1 iw_SE t_SE t_SE_ok n_SE C0.2.2.2.1 C0.2.2.2.2.2.1 hB.1 hB.2.1 hB.2.2.1 q0 he rfl 0 (by decide) (C0.2.2.2.2.1 _ k_SE_47) (fun _ h => h) rfl hin rfl (by decide +kernel) hn hfit hl hdg (fun H1 locs1 hP hD hS => kk H1 locs1 ⟨hP, hD, hS, hB.2.2.2⟩)
theorem k_SE_51 : Cond.fieldLink R_SE 51 R_SE "pipes" "LWaySearch$Pipes;" ∈ gT := gT_in (List.mem_of_getElem? (i := 109) (by decide +kernel)) (by decide +kernel)
theorem gf_SE_51 (C0 : cX p m c cc nL s args R_SE g classes tys) (hP : va_P g classes w H) (q0 : Nat) (he : w[q0]? = some (x, .inr (3, fs))) (hv : fs[1]? = some v) (hdg : decode cc pc = .ok (.getfield 51, 3)) (kk : W p l e R s m args below meth c H locs cells slots Q (F0 m (pc + 3) ls (v :: rest))) : W p l e R s m args below meth c H locs cells slots Q (F0 m pc ls (.ref x :: rest)) :=
  va_get C0.1 C0.2.1 C0.2.2.2.2.1 iw_SE C0.2.2.2.1 C0.2.2.2.2.2.1 hP q0 he rfl 1 (by decide) (C0.2.2.2.2.1 _ k_SE_51) (fun _ h => h) hv hdg kk
theorem pf_SE_51 (C0 : cX p m c cc nL s args R_SE g classes tys) (hin : meth.name = "<init>") (hB : wB g classes A H0 w H locs) (q0 : Nat) (he : w[q0]? = some (x, .inr (3, fs))) (hl : 1 < fs.length) (hn : narrow (.object "WaySearch$Pipes") v = v) (hfit : fits (.object "WaySearch$Pipes") v = true) (hw : w.set q0 (x, .inr (3, fs.set 1 v)) = w') (hdg : decode cc pc = .ok (.putfield 51, 3)) (kk : ∀ (H1 : Heap) (locs1 : List Loc), wB g classes A H0 w' H1 locs1 → W p l e R s m args below meth c H1 locs1 cells slots Q (F0 m (pc + 3) ls rest)) : W p l e R s m args below meth c H locs cells slots Q (F0 m pc ls (v :: .ref x :: rest)) := by
  subst hw
  exact va_putF C0.1 C0.2.1 C0.2.2.2.2.1 iw_SE t_SE t_SE_ok n_SE C0.2.2.2.1 C0.2.2.2.2.2.1 hB.1 hB.2.1 hB.2.2.1 q0 he rfl 1 (by decide) (C0.2.2.2.2.1 _ k_SE_51) (fun _ h => h) rfl hin rfl (by decide +kernel) hn hfit hl hdg (fun H1 locs1 hP hD hS => kk H1 locs1 ⟨hP, hD, hS, hB.2.2.2⟩)
theorem k_SE_11 : Cond.fieldLink R_SE 11 R_SE "thingIsShut" "[Z" ∈ gT := gT_in (List.mem_of_getElem? (i := 110) (by decide +kernel)) (by decide +kernel)
theorem gf_SE_11 (C0 : cX p m c cc nL s args R_SE g classes tys) (hP : va_P g classes w H) (q0 : Nat) (he : w[q0]? = some (x, .inr (3, fs))) (hv : fs[2]? = some v) (hdg : decode cc pc = .ok (.getfield 11, 3)) (kk : W p l e R s m args below meth c H locs cells slots Q (F0 m (pc + 3) ls (v :: rest))) : W p l e R s m args below meth c H locs cells slots Q (F0 m pc ls (.ref x :: rest)) :=
  va_get C0.1 C0.2.1 C0.2.2.2.2.1 iw_SE C0.2.2.2.1 C0.2.2.2.2.2.1 hP q0 he rfl 2 (by decide) (C0.2.2.2.2.1 _ k_SE_11) (fun _ h => h) hv hdg kk
theorem pf_SE_11 (C0 : cX p m c cc nL s args R_SE g classes tys) (hin : meth.name = "<init>") (hB : wB g classes A H0 w H locs) (q0 : Nat) (he : w[q0]? = some (x, .inr (3, fs))) (hl : 2 < fs.length) (hn : narrow (.array .boolean) v = v) (hfit : fits (.array .boolean) v = true) (hw : w.set q0 (x, .inr (3, fs.set 2 v)) = w') (hdg : decode cc pc = .ok (.putfield 11, 3)) (kk : ∀ (H1 : Heap) (locs1 : List Loc), wB g classes A H0 w' H1 locs1 → W p l e R s m args below meth c H1 locs1 cells slots Q (F0 m (pc + 3) ls rest)) : W p l e R s m args below meth c H locs cells slots Q (F0 m pc ls (v :: .ref x :: rest)) := by
  subst hw
  exact va_putF C0.1 C0.2.1 C0.2.2.2.2.1 iw_SE t_SE t_SE_ok n_SE C0.2.2.2.1 C0.2.2.2.2.2.1 hB.1 hB.2.1 hB.2.2.1 q0 he rfl 2 (by decide) (C0.2.2.2.2.1 _ k_SE_11) (fun _ h => h) rfl hin rfl (by decide +kernel) hn hfit hl hdg (fun H1 locs1 hP hD hS => kk H1 locs1 ⟨hP, hD, hS, hB.2.2.2⟩)
theorem k_SE_17 : Cond.fieldLink R_SE 17 R_SE "pipeIsShut" "[Z" ∈ gT := gT_in (List.mem_of_getElem? (i := 111) (by decide +kernel)) (by decide +kernel)
theorem gf_SE_17 (C0 : cX p m c cc nL s args R_SE g classes tys) (hP : va_P g classes w H) (q0 : Nat) (he : w[q0]? = some (x, .inr (3, fs))) (hv : fs[3]? = some v) (hdg : decode cc pc = .ok (.getfield 17, 3)) (kk : W p l e R s m args below meth c H locs cells slots Q (F0 m (pc + 3) ls (v :: rest))) : W p l e R s m args below meth c H locs cells slots Q (F0 m pc ls (.ref x :: rest)) :=
  va_get C0.1 C0.2.1 C0.2.2.2.2.1 iw_SE C0.2.2.2.1 C0.2.2.2.2.2.1 hP q0 he rfl 3 (by decide) (C0.2.2.2.2.1 _ k_SE_17) (fun _ h => h) hv hdg kk
theorem pf_SE_17 (C0 : cX p m c cc nL s args R_SE g classes tys) (hin : meth.name = "<init>") (hB : wB g classes A H0 w H locs) (q0 : Nat) (he : w[q0]? = some (x, .inr (3, fs))) (hl : 3 < fs.length) (hn : narrow (.array .boolean) v = v) (hfit : fits (.array .boolean) v = true) (hw : w.set q0 (x, .inr (3, fs.set 3 v)) = w') (hdg : decode cc pc = .ok (.putfield 17, 3)) (kk : ∀ (H1 : Heap) (locs1 : List Loc), wB g classes A H0 w' H1 locs1 → W p l e R s m args below meth c H1 locs1 cells slots Q (F0 m (pc + 3) ls rest)) : W p l e R s m args below meth c H locs cells slots Q (F0 m pc ls (v :: .ref x :: rest)) := by
  subst hw
  exact va_putF C0.1 C0.2.1 C0.2.2.2.2.1 iw_SE t_SE t_SE_ok n_SE C0.2.2.2.1 C0.2.2.2.2.2.1 hB.1 hB.2.1 hB.2.2.1 q0 he rfl 3 (by decide) (C0.2.2.2.2.1 _ k_SE_17) (fun _ h => h) rfl hin rfl (by decide +kernel) hn hfit hl hdg (fun H1 locs1 hP hD hS => kk H1 locs1 ⟨hP, hD, hS, hB.2.2.2⟩)
theorem k_SE_20 : Cond.fieldLink R_SE 20 R_SE "arcPipe" "[I" ∈ gT := gT_in (List.mem_of_getElem? (i := 112) (by decide +kernel)) (by decide +kernel)
theorem gf_SE_20 (C0 : cX p m c cc nL s args R_SE g classes tys) (hP : va_P g classes w H) (q0 : Nat) (he : w[q0]? = some (x, .inr (3, fs))) (hv : fs[4]? = some v) (hdg : decode cc pc = .ok (.getfield 20, 3)) (kk : W p l e R s m args below meth c H locs cells slots Q (F0 m (pc + 3) ls (v :: rest))) : W p l e R s m args below meth c H locs cells slots Q (F0 m pc ls (.ref x :: rest)) :=
  va_get C0.1 C0.2.1 C0.2.2.2.2.1 iw_SE C0.2.2.2.1 C0.2.2.2.2.2.1 hP q0 he rfl 4 (by decide) (C0.2.2.2.2.1 _ k_SE_20) (fun _ h => h) hv hdg kk
theorem pf_SE_20 (C0 : cX p m c cc nL s args R_SE g classes tys) (hin : meth.name = "<init>") (hB : wB g classes A H0 w H locs) (q0 : Nat) (he : w[q0]? = some (x, .inr (3, fs))) (hl : 4 < fs.length) (hn : narrow (.array .int) v = v) (hfit : fits (.array .int) v = true) (hw : w.set q0 (x, .inr (3, fs.set 4 v)) = w') (hdg : decode cc pc = .ok (.putfield 20, 3)) (kk : ∀ (H1 : Heap) (locs1 : List Loc), wB g classes A H0 w' H1 locs1 → W p l e R s m args below meth c H1 locs1 cells slots Q (F0 m (pc + 3) ls rest)) : W p l e R s m args below meth c H locs cells slots Q (F0 m pc ls (v :: .ref x :: rest)) := by
  subst hw
  exact va_putF C0.1 C0.2.1 C0.2.2.2.2.1 iw_SE t_SE t_SE_ok n_SE C0.2.2.2.1 C0.2.2.2.2.2.1 hB.1 hB.2.1 hB.2.2.1 q0 he rfl 4 (by decide) (C0.2.2.2.2.1 _ k_SE_20) (fun _ h => h) rfl hin rfl (by decide +kernel) hn hfit hl hdg (fun H1 locs1 hP hD hS => kk H1 locs1 ⟨hP, hD, hS, hB.2.2.2⟩)
theorem k_SE_24 : Cond.fieldLink R_SE 24 R_SE "arcFrom" "[I" ∈ gT := gT_in (List.mem_of_getElem? (i := 113) (by decide +kernel)) (by decide +kernel)
theorem gf_SE_24 (C0 : cX p m c cc nL s args R_SE g classes tys) (hP : va_P g classes w H) (q0 : Nat) (he : w[q0]? = some (x, .inr (3, fs))) (hv : fs[5]? = some v) (hdg : decode cc pc = .ok (.getfield 24, 3)) (kk : W p l e R s m args below meth c H locs cells slots Q (F0 m (pc + 3) ls (v :: rest))) : W p l e R s m args below meth c H locs cells slots Q (F0 m pc ls (.ref x :: rest)) :=
  va_get C0.1 C0.2.1 C0.2.2.2.2.1 iw_SE C0.2.2.2.1 C0.2.2.2.2.2.1 hP q0 he rfl 5 (by decide) (C0.2.2.2.2.1 _ k_SE_24) (fun _ h => h) hv hdg kk
theorem pf_SE_24 (C0 : cX p m c cc nL s args R_SE g classes tys) (hin : meth.name = "<init>") (hB : wB g classes A H0 w H locs) (q0 : Nat) (he : w[q0]? = some (x, .inr (3, fs))) (hl : 5 < fs.length) (hn : narrow (.array .int) v = v) (hfit : fits (.array .int) v = true) (hw : w.set q0 (x, .inr (3, fs.set 5 v)) = w') (hdg : decode cc pc = .ok (.putfield 24, 3)) (kk : ∀ (H1 : Heap) (locs1 : List Loc), wB g classes A H0 w' H1 locs1 → W p l e R s m args below meth c H1 locs1 cells slots Q (F0 m (pc + 3) ls rest)) : W p l e R s m args below meth c H locs cells slots Q (F0 m pc ls (v :: .ref x :: rest)) := by
  subst hw
  exact va_putF C0.1 C0.2.1 C0.2.2.2.2.1 iw_SE t_SE t_SE_ok n_SE C0.2.2.2.1 C0.2.2.2.2.2.1 hB.1 hB.2.1 hB.2.2.1 q0 he rfl 5 (by decide) (C0.2.2.2.2.1 _ k_SE_24) (fun _ h => h) rfl hin rfl (by decide +kernel) hn hfit hl hdg (fun H1 locs1 hP hD hS => kk H1 locs1 ⟨hP, hD, hS, hB.2.2.2⟩)
theorem k_SE_27 : Cond.fieldLink R_SE 27 R_SE "arcTo" "[I" ∈ gT := gT_in (List.mem_of_getElem? (i := 114) (by decide +kernel)) (by decide +kernel)
theorem gf_SE_27 (C0 : cX p m c cc nL s args R_SE g classes tys) (hP : va_P g classes w H) (q0 : Nat) (he : w[q0]? = some (x, .inr (3, fs))) (hv : fs[6]? = some v) (hdg : decode cc pc = .ok (.getfield 27, 3)) (kk : W p l e R s m args below meth c H locs cells slots Q (F0 m (pc + 3) ls (v :: rest))) : W p l e R s m args below meth c H locs cells slots Q (F0 m pc ls (.ref x :: rest)) :=
  va_get C0.1 C0.2.1 C0.2.2.2.2.1 iw_SE C0.2.2.2.1 C0.2.2.2.2.2.1 hP q0 he rfl 6 (by decide) (C0.2.2.2.2.1 _ k_SE_27) (fun _ h => h) hv hdg kk
theorem pf_SE_27 (C0 : cX p m c cc nL s args R_SE g classes tys) (hin : meth.name = "<init>") (hB : wB g classes A H0 w H locs) (q0 : Nat) (he : w[q0]? = some (x, .inr (3, fs))) (hl : 6 < fs.length) (hn : narrow (.array .int) v = v) (hfit : fits (.array .int) v = true) (hw : w.set q0 (x, .inr (3, fs.set 6 v)) = w') (hdg : decode cc pc = .ok (.putfield 27, 3)) (kk : ∀ (H1 : Heap) (locs1 : List Loc), wB g classes A H0 w' H1 locs1 → W p l e R s m args below meth c H1 locs1 cells slots Q (F0 m (pc + 3) ls rest)) : W p l e R s m args below meth c H locs cells slots Q (F0 m pc ls (v :: .ref x :: rest)) := by
  subst hw
  exact va_putF C0.1 C0.2.1 C0.2.2.2.2.1 iw_SE t_SE t_SE_ok n_SE C0.2.2.2.1 C0.2.2.2.2.2.1 hB.1 hB.2.1 hB.2.2.1 q0 he rfl 6 (by decide) (C0.2.2.2.2.1 _ k_SE_27) (fun _ h => h) rfl hin rfl (by decide +kernel) hn hfit hl hdg (fun H1 locs1 hP hD hS => kk H1 locs1 ⟨hP, hD, hS, hB.2.2.2⟩)
theorem k_SE_30 : Cond.fieldLink R_SE 30 R_SE "arcCost" "[J" ∈ gT := gT_in (List.mem_of_getElem? (i := 115) (by decide +kernel)) (by decide +kernel)
theorem gf_SE_30 (C0 : cX p m c cc nL s args R_SE g classes tys) (hP : va_P g classes w H) (q0 : Nat) (he : w[q0]? = some (x, .inr (3, fs))) (hv : fs[7]? = some v) (hdg : decode cc pc = .ok (.getfield 30, 3)) (kk : W p l e R s m args below meth c H locs cells slots Q (F0 m (pc + 3) ls (v :: rest))) : W p l e R s m args below meth c H locs cells slots Q (F0 m pc ls (.ref x :: rest)) :=
  va_get C0.1 C0.2.1 C0.2.2.2.2.1 iw_SE C0.2.2.2.1 C0.2.2.2.2.2.1 hP q0 he rfl 7 (by decide) (C0.2.2.2.2.1 _ k_SE_30) (fun _ h => h) hv hdg kk
theorem pf_SE_30 (C0 : cX p m c cc nL s args R_SE g classes tys) (hin : meth.name = "<init>") (hB : wB g classes A H0 w H locs) (q0 : Nat) (he : w[q0]? = some (x, .inr (3, fs))) (hl : 7 < fs.length) (hn : narrow (.array .long) v = v) (hfit : fits (.array .long) v = true) (hw : w.set q0 (x, .inr (3, fs.set 7 v)) = w') (hdg : decode cc pc = .ok (.putfield 30, 3)) (kk : ∀ (H1 : Heap) (locs1 : List Loc), wB g classes A H0 w' H1 locs1 → W p l e R s m args below meth c H1 locs1 cells slots Q (F0 m (pc + 3) ls rest)) : W p l e R s m args below meth c H locs cells slots Q (F0 m pc ls (v :: .ref x :: rest)) := by
  subst hw
  exact va_putF C0.1 C0.2.1 C0.2.2.2.2.1 iw_SE t_SE t_SE_ok n_SE C0.2.2.2.1 C0.2.2.2.2.2.1 hB.1 hB.2.1 hB.2.2.1 q0 he rfl 7 (by decide) (C0.2.2.2.2.1 _ k_SE_30) (fun _ h => h) rfl hin rfl (by decide +kernel) hn hfit hl hdg (fun H1 locs1 hP hD hS => kk H1 locs1 ⟨hP, hD, hS, hB.2.2.2⟩)
theorem k_SE_34 : Cond.fieldLink R_SE 34 R_SE "arcCount" "I" ∈ gT := gT_in (List.mem_of_getElem? (i := 116) (by decide +kernel)) (by decide +kernel)
theorem gf_SE_34 (C0 : cX p m c cc nL s args R_SE g classes tys) (hP : va_P g classes w H) (q0 : Nat) (he : w[q0]? = some (x, .inr (3, fs))) (hv : fs[8]? = some v) (hdg : decode cc pc = .ok (.getfield 34, 3)) (kk : W p l e R s m args below meth c H locs cells slots Q (F0 m (pc + 3) ls (v :: rest))) : W p l e R s m args below meth c H locs cells slots Q (F0 m pc ls (.ref x :: rest)) :=
  va_get C0.1 C0.2.1 C0.2.2.2.2.1 iw_SE C0.2.2.2.1 C0.2.2.2.2.2.1 hP q0 he rfl 8 (by decide) (C0.2.2.2.2.1 _ k_SE_34) (fun _ h => h) hv hdg kk
theorem pf_SE_34 (C0 : cX p m c cc nL s args R_SE g classes tys) (hB : wB g classes A H0 w H locs) (q0 : Nat) (he : w[q0]? = some (x, .inr (3, fs))) (hl : 8 < fs.length) (hn : narrow .int v = v) (hfit : fits .int v = true) (hw : w.set q0 (x, .inr (3, fs.set 8 v)) = w') (hdg : decode cc pc = .ok (.putfield 34, 3)) (kk : ∀ (H1 : Heap) (locs1 : List Loc), wB g classes A H0 w' H1 locs1 → W p l e R s m args below meth c H1 locs1 cells slots Q (F0 m (pc + 3) ls rest)) : W p l e R s m args below meth c H locs cells slots Q (F0 m pc ls (v :: .ref x :: rest)) := by
  subst hw
  exact va_put C0.1 C0.2.1 C0.2.2.2.2.1 iw_SE t_SE t_SE_ok n_SE C0.2.2.2.1 C0.2.2.2.2.2.1 hB.1 hB.2.1 hB.2.2.1 q0 he rfl 8 (by decide) (C0.2.2.2.2.1 _ k_SE_34) (fun _ h => h) rfl (by decide +kernel) hn hfit hl hdg (fun H1 locs1 hP hD hS => kk H1 locs1 ⟨hP, hD, hS, hB.2.2.2⟩)
theorem k_SE_38 : Cond.fieldLink R_SE 38 R_SE "costToEnd" "[J" ∈ gT := gT_in (List.mem_of_getElem? (i := 117) (by decide +kernel)) (by decide +kernel)
theorem gf_SE_38 (C0 : cX p m c cc nL s args R_SE g classes tys) (hP : va_P g classes w H) (q0 : Nat) (he : w[q0]? = some (x, .inr (3, fs))) (hv : fs[9]? = some v) (hdg : decode cc pc = .ok (.getfield 38, 3)) (kk : W p l e R s m args below meth c H locs cells slots Q (F0 m (pc + 3) ls (v :: rest))) : W p l e R s m args below meth c H locs cells slots Q (F0 m pc ls (.ref x :: rest)) :=
  va_get C0.1 C0.2.1 C0.2.2.2.2.1 iw_SE C0.2.2.2.1 C0.2.2.2.2.2.1 hP q0 he rfl 9 (by decide) (C0.2.2.2.2.1 _ k_SE_38) (fun _ h => h) hv hdg kk
theorem pf_SE_38 (C0 : cX p m c cc nL s args R_SE g classes tys) (hin : meth.name = "<init>") (hB : wB g classes A H0 w H locs) (q0 : Nat) (he : w[q0]? = some (x, .inr (3, fs))) (hl : 9 < fs.length) (hn : narrow (.array .long) v = v) (hfit : fits (.array .long) v = true) (hw : w.set q0 (x, .inr (3, fs.set 9 v)) = w') (hdg : decode cc pc = .ok (.putfield 38, 3)) (kk : ∀ (H1 : Heap) (locs1 : List Loc), wB g classes A H0 w' H1 locs1 → W p l e R s m args below meth c H1 locs1 cells slots Q (F0 m (pc + 3) ls rest)) : W p l e R s m args below meth c H locs cells slots Q (F0 m pc ls (v :: .ref x :: rest)) := by
  subst hw
  exact va_putF C0.1 C0.2.1 C0.2.2.2.2.1 iw_SE t_SE t_SE_ok n_SE C0.2.2.2.1 C0.2.2.2.2.2.1 hB.1 hB.2.1 hB.2.2.1 q0 he rfl 9 (by decide) (C0.2.2.2.2.1 _ k_SE_38) (fun _ h => h) rfl hin rfl (by decide +kernel) hn hfit hl hdg (fun H1 locs1 hP hD hS => kk H1 locs1 ⟨hP, hD, hS, hB.2.2.2⟩)
theorem k_SE_41 : Cond.fieldLink R_SE 41 R_SE "rowPipes" "[I" ∈ gT := gT_in (List.mem_of_getElem? (i := 118) (by decide +kernel)) (by decide +kernel)
theorem gf_SE_41 (C0 : cX p m c cc nL s args R_SE g classes tys) (hP : va_P g classes w H) (q0 : Nat) (he : w[q0]? = some (x, .inr (3, fs))) (hv : fs[10]? = some v) (hdg : decode cc pc = .ok (.getfield 41, 3)) (kk : W p l e R s m args below meth c H locs cells slots Q (F0 m (pc + 3) ls (v :: rest))) : W p l e R s m args below meth c H locs cells slots Q (F0 m pc ls (.ref x :: rest)) :=
  va_get C0.1 C0.2.1 C0.2.2.2.2.1 iw_SE C0.2.2.2.1 C0.2.2.2.2.2.1 hP q0 he rfl 10 (by decide) (C0.2.2.2.2.1 _ k_SE_41) (fun _ h => h) hv hdg kk
theorem pf_SE_41 (C0 : cX p m c cc nL s args R_SE g classes tys) (hin : meth.name = "<init>") (hB : wB g classes A H0 w H locs) (q0 : Nat) (he : w[q0]? = some (x, .inr (3, fs))) (hl : 10 < fs.length) (hn : narrow (.array .int) v = v) (hfit : fits (.array .int) v = true) (hw : w.set q0 (x, .inr (3, fs.set 10 v)) = w') (hdg : decode cc pc = .ok (.putfield 41, 3)) (kk : ∀ (H1 : Heap) (locs1 : List Loc), wB g classes A H0 w' H1 locs1 → W p l e R s m args below meth c H1 locs1 cells slots Q (F0 m (pc + 3) ls rest)) : W p l e R s m args below meth c H locs cells slots Q (F0 m pc ls (v :: .ref x :: rest)) := by
  subst hw
  exact va_putF C0.1 C0.2.1 C0.2.2.2.2.1 iw_SE t_SE t_SE_ok n_SE C0.2.2.2.1 C0.2.2.2.2.2.1 hB.1 hB.2.1 hB.2.2.1 q0 he rfl 10 (by decide) (C0.2.2.2.2.1 _ k_SE_41) (fun _ h => h) rfl hin rfl (by decide +kernel) hn hfit hl hdg (fun H1 locs1 hP hD hS => kk H1 locs1 ⟨hP, hD, hS, hB.2.2.2⟩)
theorem k_SE_44 : Cond.fieldLink R_SE 44 R_SE "rowThings" "[I" ∈ gT := gT_in (List.mem_of_getElem? (i := 119) (by decide +kernel)) (by decide +kernel)
theorem gf_SE_44 (C0 : cX p m c cc nL s args R_SE g classes tys) (hP : va_P g classes w H) (q0 : Nat) (he : w[q0]? = some (x, .inr (3, fs))) (hv : fs[11]? = some v) (hdg : decode cc pc = .ok (.getfield 44, 3)) (kk : W p l e R s m args below meth c H locs cells slots Q (F0 m (pc + 3) ls (v :: rest))) : W p l e R s m args below meth c H locs cells slots Q (F0 m pc ls (.ref x :: rest)) :=
  va_get C0.1 C0.2.1 C0.2.2.2.2.1 iw_SE C0.2.2.2.1 C0.2.2.2.2.2.1 hP q0 he rfl 11 (by decide) (C0.2.2.2.2.1 _ k_SE_44) (fun _ h => h) hv hdg kk
theorem pf_SE_44 (C0 : cX p m c cc nL s args R_SE g classes tys) (hin : meth.name = "<init>") (hB : wB g classes A H0 w H locs) (q0 : Nat) (he : w[q0]? = some (x, .inr (3, fs))) (hl : 11 < fs.length) (hn : narrow (.array .int) v = v) (hfit : fits (.array .int) v = true) (hw : w.set q0 (x, .inr (3, fs.set 11 v)) = w') (hdg : decode cc pc = .ok (.putfield 44, 3)) (kk : ∀ (H1 : Heap) (locs1 : List Loc), wB g classes A H0 w' H1 locs1 → W p l e R s m args below meth c H1 locs1 cells slots Q (F0 m (pc + 3) ls rest)) : W p l e R s m args below meth c H locs cells slots Q (F0 m pc ls (v :: .ref x :: rest)) := by
  subst hw
  exact va_putF C0.1 C0.2.1 C0.2.2.2.2.1 iw_SE t_SE t_SE_ok n_SE C0.2.2.2.1 C0.2.2.2.2.2.1 hB.1 hB.2.1 hB.2.2.1 q0 he rfl 11 (by decide) (C0.2.2.2.2.1 _ k_SE_44) (fun _ h => h) rfl hin rfl (by decide +kernel) hn hfit hl hdg (fun H1 locs1 hP hD hS => kk H1 locs1 ⟨hP, hD, hS, hB.2.2.2⟩)
theorem k_WS_32 : Cond.classLink R_WS 32 R_FW ∈ gT := gT_in (List.mem_of_getElem? (i := 145) (by decide +kernel)) (by decide +kernel)
theorem k_WS_10 : Cond.fieldLink R_WS 10 R_WS "things" "LWaySearch$Things;" ∈ gT := gT_in (List.mem_of_getElem? (i := 147) (by decide +kernel)) (by decide +kernel)
theorem gf_WS_10 (C0 : cX p m c cc nL s args R_WS g classes tys) (hP : va_P g classes w H) (q0 : Nat) (he : w[q0]? = some (x, .inr (0, fs))) (hv : fs[0]? = some v) (hdg : decode cc pc = .ok (.getfield 10, 3)) (kk : W p l e R s m args below meth c H locs cells slots Q (F0 m (pc + 3) ls (v :: rest))) : W p l e R s m args below meth c H locs cells slots Q (F0 m pc ls (.ref x :: rest)) :=
  va_get C0.1 C0.2.1 C0.2.2.2.2.1 iw_WS C0.2.2.2.1 C0.2.2.2.2.2.1 hP q0 he rfl 0 (by decide) (C0.2.2.2.2.1 _ k_WS_10) (fun _ h => h) hv hdg kk
theorem pf_WS_10 (C0 : cX p m c cc nL s args R_WS g classes tys) (hin : meth.name = "<init>") (hB : wB g classes A H0 w H locs) (q0 : Nat) (he : w[q0]? = some (x, .inr (0, fs))) (hl : 0 < fs.length) (hn : narrow (.object "WaySearch$Things") v = v) (hfit : fits (.object "WaySearch$Things") v = true) (hw : w.set q0 (x, .inr (0, fs.set 0 v)) = w') (hdg : decode cc pc = .ok (.putfield 10, 3)) (kk : ∀ (H1 : Heap) (locs1 : List Loc), wB g classes A H0 w' H1 locs1 → W p l e R s m args below meth c H1 locs1 cells slots Q (F0 m (pc + 3) ls rest)) : W p l e R s m args below meth c H locs cells slots Q (F0 m pc ls (v :: .ref x :: rest)) := by
  subst hw
  exact va_putF C0.1 C0.2.1 C0.2.2.2.2.1 iw_WS t_WS t_WS_ok n_WS C0.2.2.2.1 C0.2.2.2.2.2.1 hB.1 hB.2.1 hB.2.2.1 q0 he rfl 0 (by decide) (C0.2.2.2.2.1 _ k_WS_10) (fun _ h => h) rfl hin rfl (by decide +kernel) hn hfit hl hdg (fun H1 locs1 hP hD hS => kk H1 locs1 ⟨hP, hD, hS, hB.2.2.2⟩)
theorem k_WS_19 : Cond.fieldLink R_WS 19 R_WS "pipes" "LWaySearch$Pipes;" ∈ gT := gT_in (List.mem_of_getElem? (i := 148) (by decide +kernel)) (by decide +kernel)
theorem gf_WS_19 (C0 : cX p m c cc nL s args R_WS g classes tys) (hP : va_P g classes w H) (q0 : Nat) (he : w[q0]? = some (x, .inr (0, fs))) (hv : fs[1]? = some v) (hdg : decode cc pc = .ok (.getfield 19, 3)) (kk : W p l e R s m args below meth c H locs cells slots Q (F0 m (pc + 3) ls (v :: rest))) : W p l e R s m args below meth c H locs cells slots Q (F0 m pc ls (.ref x :: rest)) :=
  va_get C0.1 C0.2.1 C0.2.2.2.2.1 iw_WS C0.2.2.2.1 C0.2.2.2.2.2.1 hP q0 he rfl 1 (by decide) (C0.2.2.2.2.1 _ k_WS_19) (fun _ h => h) hv hdg kk
theorem pf_WS_19 (C0 : cX p m c cc nL s args R_WS g classes tys) (hin : meth.name = "<init>") (hB : wB g classes A H0 w H locs) (q0 : Nat) (he : w[q0]? = some (x, .inr (0, fs))) (hl : 1 < fs.length) (hn : narrow (.object "WaySearch$Pipes") v = v) (hfit : fits (.object "WaySearch$Pipes") v = true) (hw : w.set q0 (x, .inr (0, fs.set 1 v)) = w') (hdg : decode cc pc = .ok (.putfield 19, 3)) (kk : ∀ (H1 : Heap) (locs1 : List Loc), wB g classes A H0 w' H1 locs1 → W p l e R s m args below meth c H1 locs1 cells slots Q (F0 m (pc + 3) ls rest)) : W p l e R s m args below meth c H locs cells slots Q (F0 m pc ls (v :: .ref x :: rest)) := by
  subst hw
  exact va_putF C0.1 C0.2.1 C0.2.2.2.2.1 iw_WS t_WS t_WS_ok n_WS C0.2.2.2.1 C0.2.2.2.2.2.1 hB.1 hB.2.1 hB.2.2.1 q0 he rfl 1 (by decide) (C0.2.2.2.2.1 _ k_WS_19) (fun _ h => h) rfl hin rfl (by decide +kernel) hn hfit hl hdg (fun H1 locs1 hP hD hS => kk H1 locs1 ⟨hP, hD, hS, hB.2.2.2⟩)
theorem k_WS_28 : Cond.fieldLink R_WS 28 R_WS "search" "LWaySearch$Search;" ∈ gT := gT_in (List.mem_of_getElem? (i := 149) (by decide +kernel)) (by decide +kernel)
theorem gf_WS_28 (C0 : cX p m c cc nL s args R_WS g classes tys) (hP : va_P g classes w H) (q0 : Nat) (he : w[q0]? = some (x, .inr (0, fs))) (hv : fs[2]? = some v) (hdg : decode cc pc = .ok (.getfield 28, 3)) (kk : W p l e R s m args below meth c H locs cells slots Q (F0 m (pc + 3) ls (v :: rest))) : W p l e R s m args below meth c H locs cells slots Q (F0 m pc ls (.ref x :: rest)) :=
  va_get C0.1 C0.2.1 C0.2.2.2.2.1 iw_WS C0.2.2.2.1 C0.2.2.2.2.2.1 hP q0 he rfl 2 (by decide) (C0.2.2.2.2.1 _ k_WS_28) (fun _ h => h) hv hdg kk
theorem pf_WS_28 (C0 : cX p m c cc nL s args R_WS g classes tys) (hin : meth.name = "<init>") (hB : wB g classes A H0 w H locs) (q0 : Nat) (he : w[q0]? = some (x, .inr (0, fs))) (hl : 2 < fs.length) (hn : narrow (.object "WaySearch$Search") v = v) (hfit : fits (.object "WaySearch$Search") v = true) (hw : w.set q0 (x, .inr (0, fs.set 2 v)) = w') (hdg : decode cc pc = .ok (.putfield 28, 3)) (kk : ∀ (H1 : Heap) (locs1 : List Loc), wB g classes A H0 w' H1 locs1 → W p l e R s m args below meth c H1 locs1 cells slots Q (F0 m (pc + 3) ls rest)) : W p l e R s m args below meth c H locs cells slots Q (F0 m pc ls (v :: .ref x :: rest)) := by
  subst hw
  exact va_putF C0.1 C0.2.1 C0.2.2.2.2.1 iw_WS t_WS t_WS_ok n_WS C0.2.2.2.1 C0.2.2.2.2.2.1 hB.1 hB.2.1 hB.2.2.1 q0 he rfl 2 (by decide) (C0.2.2.2.2.1 _ k_WS_28) (fun _ h => h) rfl hin rfl (by decide +kernel) hn hfit hl hdg (fun H1 locs1 hP hD hS => kk H1 locs1 ⟨hP, hD, hS, hB.2.2.2⟩)
theorem k_WS_34 : Cond.fieldLink R_WS 34 R_WS "ways" "[LWaySearch$FoundWay;" ∈ gT := gT_in (List.mem_of_getElem? (i := 150) (by decide +kernel)) (by decide +kernel)
theorem gf_WS_34 (C0 : cX p m c cc nL s args R_WS g classes tys) (hP : va_P g classes w H) (q0 : Nat) (he : w[q0]? = some (x, .inr (0, fs))) (hv : fs[3]? = some v) (hdg : decode cc pc = .ok (.getfield 34, 3)) (kk : W p l e R s m args below meth c H locs cells slots Q (F0 m (pc + 3) ls (v :: rest))) : W p l e R s m args below meth c H locs cells slots Q (F0 m pc ls (.ref x :: rest)) :=
  va_get C0.1 C0.2.1 C0.2.2.2.2.1 iw_WS C0.2.2.2.1 C0.2.2.2.2.2.1 hP q0 he rfl 3 (by decide) (C0.2.2.2.2.1 _ k_WS_34) (fun _ h => h) hv hdg kk
theorem pf_WS_34 (C0 : cX p m c cc nL s args R_WS g classes tys) (hin : meth.name = "<init>") (hB : wB g classes A H0 w H locs) (q0 : Nat) (he : w[q0]? = some (x, .inr (0, fs))) (hl : 3 < fs.length) (hn : narrow (.array (.object "WaySearch$FoundWay")) v = v) (hfit : fits (.array (.object "WaySearch$FoundWay")) v = true) (hw : w.set q0 (x, .inr (0, fs.set 3 v)) = w') (hdg : decode cc pc = .ok (.putfield 34, 3)) (kk : ∀ (H1 : Heap) (locs1 : List Loc), wB g classes A H0 w' H1 locs1 → W p l e R s m args below meth c H1 locs1 cells slots Q (F0 m (pc + 3) ls rest)) : W p l e R s m args below meth c H locs cells slots Q (F0 m pc ls (v :: .ref x :: rest)) := by
  subst hw
  exact va_putF C0.1 C0.2.1 C0.2.2.2.2.1 iw_WS t_WS t_WS_ok n_WS C0.2.2.2.1 C0.2.2.2.2.2.1 hB.1 hB.2.1 hB.2.2.1 q0 he rfl 3 (by decide) (C0.2.2.2.2.1 _ k_WS_34) (fun _ h => h) rfl hin rfl (by decide +kernel) hn hfit hl hdg (fun H1 locs1 hP hD hS => kk H1 locs1 ⟨hP, hD, hS, hB.2.2.2⟩)
theorem k_WS_38 : Cond.fieldLink R_WS 38 R_WS "wayCount" "I" ∈ gT := gT_in (List.mem_of_getElem? (i := 151) (by decide +kernel)) (by decide +kernel)
theorem gf_WS_38 (C0 : cX p m c cc nL s args R_WS g classes tys) (hP : va_P g classes w H) (q0 : Nat) (he : w[q0]? = some (x, .inr (0, fs))) (hv : fs[4]? = some v) (hdg : decode cc pc = .ok (.getfield 38, 3)) (kk : W p l e R s m args below meth c H locs cells slots Q (F0 m (pc + 3) ls (v :: rest))) : W p l e R s m args below meth c H locs cells slots Q (F0 m pc ls (.ref x :: rest)) :=
  va_get C0.1 C0.2.1 C0.2.2.2.2.1 iw_WS C0.2.2.2.1 C0.2.2.2.2.2.1 hP q0 he rfl 4 (by decide) (C0.2.2.2.2.1 _ k_WS_38) (fun _ h => h) hv hdg kk
theorem pf_WS_38 (C0 : cX p m c cc nL s args R_WS g classes tys) (hB : wB g classes A H0 w H locs) (q0 : Nat) (he : w[q0]? = some (x, .inr (0, fs))) (hl : 4 < fs.length) (hn : narrow .int v = v) (hfit : fits .int v = true) (hw : w.set q0 (x, .inr (0, fs.set 4 v)) = w') (hdg : decode cc pc = .ok (.putfield 38, 3)) (kk : ∀ (H1 : Heap) (locs1 : List Loc), wB g classes A H0 w' H1 locs1 → W p l e R s m args below meth c H1 locs1 cells slots Q (F0 m (pc + 3) ls rest)) : W p l e R s m args below meth c H locs cells slots Q (F0 m pc ls (v :: .ref x :: rest)) := by
  subst hw
  exact va_put C0.1 C0.2.1 C0.2.2.2.2.1 iw_WS t_WS t_WS_ok n_WS C0.2.2.2.1 C0.2.2.2.2.2.1 hB.1 hB.2.1 hB.2.2.1 q0 he rfl 4 (by decide) (C0.2.2.2.2.1 _ k_WS_38) (fun _ h => h) rfl (by decide +kernel) hn hfit hl hdg (fun H1 locs1 hP hD hS => kk H1 locs1 ⟨hP, hD, hS, hB.2.2.2⟩)
theorem k_WS_50 : Cond.constantLong R_WS 50 (1000000000) ∈ gT := gT_in (List.mem_of_getElem? (i := 187) (by decide +kernel)) (by decide +kernel)
theorem k_SE_119 : Cond.constantLong R_SE 119 (64) ∈ gT := gT_in (List.mem_of_getElem? (i := 245) (by decide +kernel)) (by decide +kernel)
theorem k_SE_102 : Cond.constantLong R_SE 102 (9223372036854775807) ∈ gT := gT_in (List.mem_of_getElem? (i := 250) (by decide +kernel)) (by decide +kernel)
theorem k_SE_84 : Cond.classLink R_SE 84 R_FW ∈ gT := gT_in (List.mem_of_getElem? (i := 282) (by decide +kernel)) (by decide +kernel)
theorem k_inst_FW : Cond.instantiable R_FW 5 ∈ gT := gT_in (List.mem_of_getElem? (i := 283) (by decide +kernel)) (by decide +kernel)
theorem k_FW_9 : Cond.fieldLink R_FW 9 R_FW "from" "I" ∈ gT := gT_in (List.mem_of_getElem? (i := 288) (by decide +kernel)) (by decide +kernel)
theorem gf_FW_9 (C0 : cX p m c cc nL s args R_FW g classes tys) (hP : va_P g classes w H) (q0 : Nat) (he : w[q0]? = some (x, .inr (4, fs))) (hv : fs[0]? = some v) (hdg : decode cc pc = .ok (.getfield 9, 3)) (kk : W p l e R s m args below meth c H locs cells slots Q (F0 m (pc + 3) ls (v :: rest))) : W p l e R s m args below meth c H locs cells slots Q (F0 m pc ls (.ref x :: rest)) :=
  va_get C0.1 C0.2.1 C0.2.2.2.2.1 iw_FW C0.2.2.2.1 C0.2.2.2.2.2.1 hP q0 he rfl 0 (by decide) (C0.2.2.2.2.1 _ k_FW_9) (fun _ h => h) hv hdg kk
theorem pf_FW_9 (C0 : cX p m c cc nL s args R_FW g classes tys) (hin : meth.name = "<init>") (hB : wB g classes A H0 w H locs) (q0 : Nat) (he : w[q0]? = some (x, .inr (4, fs))) (hl : 0 < fs.length) (hn : narrow .int v = v) (hfit : fits .int v = true) (hw : w.set q0 (x, .inr (4, fs.set 0 v)) = w') (hdg : decode cc pc = .ok (.putfield 9, 3)) (kk : ∀ (H1 : Heap) (locs1 : List Loc), wB g classes A H0 w' H1 locs1 → W p l e R s m args below meth c H1 locs1 cells slots Q (F0 m (pc + 3) ls rest)) : W p l e R s m args below meth c H locs cells slots Q (F0 m pc ls (v :: .ref x :: rest)) := by
  subst hw
  exact va_putF C0.1 C0.2.1 C0.2.2.2.2.1 iw_FW t_FW t_FW_ok n_FW C0.2.2.2.1 C0.2.2.2.2.2.1 hB.1 hB.2.1 hB.2.2.1 q0 he rfl 0 (by decide) (C0.2.2.2.2.1 _ k_FW_9) (fun _ h => h) rfl hin rfl (by decide +kernel) hn hfit hl hdg (fun H1 locs1 hP hD hS => kk H1 locs1 ⟨hP, hD, hS, hB.2.2.2⟩)
theorem k_WS_107 : Cond.fieldLink R_WS 107 R_FW "from" "I" ∈ gT := gT_in (List.mem_of_getElem? (i := 289) (by decide +kernel)) (by decide +kernel)
theorem gf_WS_107 (C0 : cX p m c cc nL s args R_WS g classes tys) (hP : va_P g classes w H) (q0 : Nat) (he : w[q0]? = some (x, .inr (4, fs))) (hv : fs[0]? = some v) (hdg : decode cc pc = .ok (.getfield 107, 3)) (kk : W p l e R s m args below meth c H locs cells slots Q (F0 m (pc + 3) ls (v :: rest))) : W p l e R s m args below meth c H locs cells slots Q (F0 m pc ls (.ref x :: rest)) :=
  va_get C0.1 C0.2.1 C0.2.2.2.2.1 iw_FW C0.2.2.2.1 C0.2.2.2.2.2.1 hP q0 he rfl 0 (by decide) (C0.2.2.2.2.1 _ k_WS_107) (fun _ h => h) hv hdg kk
-- no put of WS_107
theorem k_FW_15 : Cond.fieldLink R_FW 15 R_FW "to" "I" ∈ gT := gT_in (List.mem_of_getElem? (i := 290) (by decide +kernel)) (by decide +kernel)
theorem gf_FW_15 (C0 : cX p m c cc nL s args R_FW g classes tys) (hP : va_P g classes w H) (q0 : Nat) (he : w[q0]? = some (x, .inr (4, fs))) (hv : fs[1]? = some v) (hdg : decode cc pc = .ok (.getfield 15, 3)) (kk : W p l e R s m args below meth c H locs cells slots Q (F0 m (pc + 3) ls (v :: rest))) : W p l e R s m args below meth c H locs cells slots Q (F0 m pc ls (.ref x :: rest)) :=
  va_get C0.1 C0.2.1 C0.2.2.2.2.1 iw_FW C0.2.2.2.1 C0.2.2.2.2.2.1 hP q0 he rfl 1 (by decide) (C0.2.2.2.2.1 _ k_FW_15) (fun _ h => h) hv hdg kk
theorem pf_FW_15 (C0 : cX p m c cc nL s args R_FW g classes tys) (hin : meth.name = "<init>") (hB : wB g classes A H0 w H locs) (q0 : Nat) (he : w[q0]? = some (x, .inr (4, fs))) (hl : 1 < fs.length) (hn : narrow .int v = v) (hfit : fits .int v = true) (hw : w.set q0 (x, .inr (4, fs.set 1 v)) = w') (hdg : decode cc pc = .ok (.putfield 15, 3)) (kk : ∀ (H1 : Heap) (locs1 : List Loc), wB g classes A H0 w' H1 locs1 → W p l e R s m args below meth c H1 locs1 cells slots Q (F0 m (pc + 3) ls rest)) : W p l e R s m args below meth c H locs cells slots Q (F0 m pc ls (v :: .ref x :: rest)) := by
  subst hw
  exact va_putF C0.1 C0.2.1 C0.2.2.2.2.1 iw_FW t_FW t_FW_ok n_FW C0.2.2.2.1 C0.2.2.2.2.2.1 hB.1 hB.2.1 hB.2.2.1 q0 he rfl 1 (by decide) (C0.2.2.2.2.1 _ k_FW_15) (fun _ h => h) rfl hin rfl (by decide +kernel) hn hfit hl hdg (fun H1 locs1 hP hD hS => kk H1 locs1 ⟨hP, hD, hS, hB.2.2.2⟩)
theorem k_WS_110 : Cond.fieldLink R_WS 110 R_FW "to" "I" ∈ gT := gT_in (List.mem_of_getElem? (i := 291) (by decide +kernel)) (by decide +kernel)
theorem gf_WS_110 (C0 : cX p m c cc nL s args R_WS g classes tys) (hP : va_P g classes w H) (q0 : Nat) (he : w[q0]? = some (x, .inr (4, fs))) (hv : fs[1]? = some v) (hdg : decode cc pc = .ok (.getfield 110, 3)) (kk : W p l e R s m args below meth c H locs cells slots Q (F0 m (pc + 3) ls (v :: rest))) : W p l e R s m args below meth c H locs cells slots Q (F0 m pc ls (.ref x :: rest)) :=
  va_get C0.1 C0.2.1 C0.2.2.2.2.1 iw_FW C0.2.2.2.1 C0.2.2.2.2.2.1 hP q0 he rfl 1 (by decide) (C0.2.2.2.2.1 _ k_WS_110) (fun _ h => h) hv hdg kk
-- no put of WS_110
theorem k_FW_18 : Cond.fieldLink R_FW 18 R_FW "litres" "J" ∈ gT := gT_in (List.mem_of_getElem? (i := 292) (by decide +kernel)) (by decide +kernel)
theorem gf_FW_18 (C0 : cX p m c cc nL s args R_FW g classes tys) (hP : va_P g classes w H) (q0 : Nat) (he : w[q0]? = some (x, .inr (4, fs))) (hv : fs[2]? = some v) (hdg : decode cc pc = .ok (.getfield 18, 3)) (kk : W p l e R s m args below meth c H locs cells slots Q (F0 m (pc + 3) ls (v :: rest))) : W p l e R s m args below meth c H locs cells slots Q (F0 m pc ls (.ref x :: rest)) :=
  va_get C0.1 C0.2.1 C0.2.2.2.2.1 iw_FW C0.2.2.2.1 C0.2.2.2.2.2.1 hP q0 he rfl 2 (by decide) (C0.2.2.2.2.1 _ k_FW_18) (fun _ h => h) hv hdg kk
theorem pf_FW_18 (C0 : cX p m c cc nL s args R_FW g classes tys) (hin : meth.name = "<init>") (hB : wB g classes A H0 w H locs) (q0 : Nat) (he : w[q0]? = some (x, .inr (4, fs))) (hl : 2 < fs.length) (hn : narrow .long v = v) (hfit : fits .long v = true) (hw : w.set q0 (x, .inr (4, fs.set 2 v)) = w') (hdg : decode cc pc = .ok (.putfield 18, 3)) (kk : ∀ (H1 : Heap) (locs1 : List Loc), wB g classes A H0 w' H1 locs1 → W p l e R s m args below meth c H1 locs1 cells slots Q (F0 m (pc + 3) ls rest)) : W p l e R s m args below meth c H locs cells slots Q (F0 m pc ls (v :: .ref x :: rest)) := by
  subst hw
  exact va_putF C0.1 C0.2.1 C0.2.2.2.2.1 iw_FW t_FW t_FW_ok n_FW C0.2.2.2.1 C0.2.2.2.2.2.1 hB.1 hB.2.1 hB.2.2.1 q0 he rfl 2 (by decide) (C0.2.2.2.2.1 _ k_FW_18) (fun _ h => h) rfl hin rfl (by decide +kernel) hn hfit hl hdg (fun H1 locs1 hP hD hS => kk H1 locs1 ⟨hP, hD, hS, hB.2.2.2⟩)
theorem k_WS_99 : Cond.fieldLink R_WS 99 R_FW "litres" "J" ∈ gT := gT_in (List.mem_of_getElem? (i := 293) (by decide +kernel)) (by decide +kernel)
theorem gf_WS_99 (C0 : cX p m c cc nL s args R_WS g classes tys) (hP : va_P g classes w H) (q0 : Nat) (he : w[q0]? = some (x, .inr (4, fs))) (hv : fs[2]? = some v) (hdg : decode cc pc = .ok (.getfield 99, 3)) (kk : W p l e R s m args below meth c H locs cells slots Q (F0 m (pc + 3) ls (v :: rest))) : W p l e R s m args below meth c H locs cells slots Q (F0 m pc ls (.ref x :: rest)) :=
  va_get C0.1 C0.2.1 C0.2.2.2.2.1 iw_FW C0.2.2.2.1 C0.2.2.2.2.2.1 hP q0 he rfl 2 (by decide) (C0.2.2.2.2.1 _ k_WS_99) (fun _ h => h) hv hdg kk
-- no put of WS_99
theorem k_FW_22 : Cond.fieldLink R_FW 22 R_FW "pipes" "[I" ∈ gT := gT_in (List.mem_of_getElem? (i := 294) (by decide +kernel)) (by decide +kernel)
theorem gf_FW_22 (C0 : cX p m c cc nL s args R_FW g classes tys) (hP : va_P g classes w H) (q0 : Nat) (he : w[q0]? = some (x, .inr (4, fs))) (hv : fs[3]? = some v) (hdg : decode cc pc = .ok (.getfield 22, 3)) (kk : W p l e R s m args below meth c H locs cells slots Q (F0 m (pc + 3) ls (v :: rest))) : W p l e R s m args below meth c H locs cells slots Q (F0 m pc ls (.ref x :: rest)) :=
  va_get C0.1 C0.2.1 C0.2.2.2.2.1 iw_FW C0.2.2.2.1 C0.2.2.2.2.2.1 hP q0 he rfl 3 (by decide) (C0.2.2.2.2.1 _ k_FW_22) (fun _ h => h) hv hdg kk
theorem pf_FW_22 (C0 : cX p m c cc nL s args R_FW g classes tys) (hin : meth.name = "<init>") (hB : wB g classes A H0 w H locs) (q0 : Nat) (he : w[q0]? = some (x, .inr (4, fs))) (hl : 3 < fs.length) (hn : narrow (.array .int) v = v) (hfit : fits (.array .int) v = true) (hw : w.set q0 (x, .inr (4, fs.set 3 v)) = w') (hdg : decode cc pc = .ok (.putfield 22, 3)) (kk : ∀ (H1 : Heap) (locs1 : List Loc), wB g classes A H0 w' H1 locs1 → W p l e R s m args below meth c H1 locs1 cells slots Q (F0 m (pc + 3) ls rest)) : W p l e R s m args below meth c H locs cells slots Q (F0 m pc ls (v :: .ref x :: rest)) := by
  subst hw
  exact va_putF C0.1 C0.2.1 C0.2.2.2.2.1 iw_FW t_FW t_FW_ok n_FW C0.2.2.2.1 C0.2.2.2.2.2.1 hB.1 hB.2.1 hB.2.2.1 q0 he rfl 3 (by decide) (C0.2.2.2.2.1 _ k_FW_22) (fun _ h => h) rfl hin rfl (by decide +kernel) hn hfit hl hdg (fun H1 locs1 hP hD hS => kk H1 locs1 ⟨hP, hD, hS, hB.2.2.2⟩)
theorem k_SE_83 : Cond.fieldLink R_SE 83 R_FW "pipes" "[I" ∈ gT := gT_in (List.mem_of_getElem? (i := 295) (by decide +kernel)) (by decide +kernel)
theorem gf_SE_83 (C0 : cX p m c cc nL s args R_SE g classes tys) (hP : va_P g classes w H) (q0 : Nat) (he : w[q0]? = some (x, .inr (4, fs))) (hv : fs[3]? = some v) (hdg : decode cc pc = .ok (.getfield 83, 3)) (kk : W p l e R s m args below meth c H locs cells slots Q (F0 m (pc + 3) ls (v :: rest))) : W p l e R s m args below meth c H locs cells slots Q (F0 m pc ls (.ref x :: rest)) :=
  va_get C0.1 C0.2.1 C0.2.2.2.2.1 iw_FW C0.2.2.2.1 C0.2.2.2.2.2.1 hP q0 he rfl 3 (by decide) (C0.2.2.2.2.1 _ k_SE_83) (fun _ h => h) hv hdg kk
-- no put of SE_83
theorem k_WS_141 : Cond.fieldLink R_WS 141 R_FW "pipes" "[I" ∈ gT := gT_in (List.mem_of_getElem? (i := 296) (by decide +kernel)) (by decide +kernel)
theorem gf_WS_141 (C0 : cX p m c cc nL s args R_WS g classes tys) (hP : va_P g classes w H) (q0 : Nat) (he : w[q0]? = some (x, .inr (4, fs))) (hv : fs[3]? = some v) (hdg : decode cc pc = .ok (.getfield 141, 3)) (kk : W p l e R s m args below meth c H locs cells slots Q (F0 m (pc + 3) ls (v :: rest))) : W p l e R s m args below meth c H locs cells slots Q (F0 m pc ls (.ref x :: rest)) :=
  va_get C0.1 C0.2.1 C0.2.2.2.2.1 iw_FW C0.2.2.2.1 C0.2.2.2.2.2.1 hP q0 he rfl 3 (by decide) (C0.2.2.2.2.1 _ k_WS_141) (fun _ h => h) hv hdg kk
-- no put of WS_141
theorem k_FW_26 : Cond.fieldLink R_FW 26 R_FW "things" "[I" ∈ gT := gT_in (List.mem_of_getElem? (i := 297) (by decide +kernel)) (by decide +kernel)
theorem gf_FW_26 (C0 : cX p m c cc nL s args R_FW g classes tys) (hP : va_P g classes w H) (q0 : Nat) (he : w[q0]? = some (x, .inr (4, fs))) (hv : fs[4]? = some v) (hdg : decode cc pc = .ok (.getfield 26, 3)) (kk : W p l e R s m args below meth c H locs cells slots Q (F0 m (pc + 3) ls (v :: rest))) : W p l e R s m args below meth c H locs cells slots Q (F0 m pc ls (.ref x :: rest)) :=
  va_get C0.1 C0.2.1 C0.2.2.2.2.1 iw_FW C0.2.2.2.1 C0.2.2.2.2.2.1 hP q0 he rfl 4 (by decide) (C0.2.2.2.2.1 _ k_FW_26) (fun _ h => h) hv hdg kk
theorem pf_FW_26 (C0 : cX p m c cc nL s args R_FW g classes tys) (hin : meth.name = "<init>") (hB : wB g classes A H0 w H locs) (q0 : Nat) (he : w[q0]? = some (x, .inr (4, fs))) (hl : 4 < fs.length) (hn : narrow (.array .int) v = v) (hfit : fits (.array .int) v = true) (hw : w.set q0 (x, .inr (4, fs.set 4 v)) = w') (hdg : decode cc pc = .ok (.putfield 26, 3)) (kk : ∀ (H1 : Heap) (locs1 : List Loc), wB g classes A H0 w' H1 locs1 → W p l e R s m args below meth c H1 locs1 cells slots Q (F0 m (pc + 3) ls rest)) : W p l e R s m args below meth c H locs cells slots Q (F0 m pc ls (v :: .ref x :: rest)) := by
  subst hw
  exact va_putF C0.1 C0.2.1 C0.2.2.2.2.1 iw_FW t_FW t_FW_ok n_FW C0.2.2.2.1 C0.2.2.2.2.2.1 hB.1 hB.2.1 hB.2.2.1 q0 he rfl 4 (by decide) (C0.2.2.2.2.1 _ k_FW_26) (fun _ h => h) rfl hin rfl (by decide +kernel) hn hfit hl hdg (fun H1 locs1 hP hD hS => kk H1 locs1 ⟨hP, hD, hS, hB.2.2.2⟩)
theorem k_SE_90 : Cond.fieldLink R_SE 90 R_FW "things" "[I" ∈ gT := gT_in (List.mem_of_getElem? (i := 298) (by decide +kernel)) (by decide +kernel)
theorem gf_SE_90 (C0 : cX p m c cc nL s args R_SE g classes tys) (hP : va_P g classes w H) (q0 : Nat) (he : w[q0]? = some (x, .inr (4, fs))) (hv : fs[4]? = some v) (hdg : decode cc pc = .ok (.getfield 90, 3)) (kk : W p l e R s m args below meth c H locs cells slots Q (F0 m (pc + 3) ls (v :: rest))) : W p l e R s m args below meth c H locs cells slots Q (F0 m pc ls (.ref x :: rest)) :=
  va_get C0.1 C0.2.1 C0.2.2.2.2.1 iw_FW C0.2.2.2.1 C0.2.2.2.2.2.1 hP q0 he rfl 4 (by decide) (C0.2.2.2.2.1 _ k_SE_90) (fun _ h => h) hv hdg kk
-- no put of SE_90
theorem k_WS_90 : Cond.fieldLink R_WS 90 R_FW "things" "[I" ∈ gT := gT_in (List.mem_of_getElem? (i := 299) (by decide +kernel)) (by decide +kernel)
theorem gf_WS_90 (C0 : cX p m c cc nL s args R_WS g classes tys) (hP : va_P g classes w H) (q0 : Nat) (he : w[q0]? = some (x, .inr (4, fs))) (hv : fs[4]? = some v) (hdg : decode cc pc = .ok (.getfield 90, 3)) (kk : W p l e R s m args below meth c H locs cells slots Q (F0 m (pc + 3) ls (v :: rest))) : W p l e R s m args below meth c H locs cells slots Q (F0 m pc ls (.ref x :: rest)) :=
  va_get C0.1 C0.2.1 C0.2.2.2.2.1 iw_FW C0.2.2.2.1 C0.2.2.2.2.2.1 hP q0 he rfl 4 (by decide) (C0.2.2.2.2.1 _ k_WS_90) (fun _ h => h) hv hdg kk
-- no put of WS_90
theorem k_WS_97 : Cond.constantLong R_WS 97 (-2) ∈ gT := gT_in (List.mem_of_getElem? (i := 335) (by decide +kernel)) (by decide +kernel)
theorem k_LW_10 : Cond.classLink R_LW 10 R_MO ∈ gT := gT_in (List.mem_of_getElem? (i := 385) (by decide +kernel)) (by decide +kernel)
theorem k_inst_MO : Cond.instantiable R_MO 21 ∈ gT := gT_in (List.mem_of_getElem? (i := 386) (by decide +kernel)) (by decide +kernel)
theorem k_MO_9 : Cond.fieldLink R_MO 9 R_MO "kind" "[I" ∈ gT := gT_in (List.mem_of_getElem? (i := 391) (by decide +kernel)) (by decide +kernel)
theorem gf_MO_9 (C0 : cX p m c cc nL s args R_MO g classes tys) (hP : va_P g classes w H) (q0 : Nat) (he : w[q0]? = some (x, .inr (5, fs))) (hv : fs[0]? = some v) (hdg : decode cc pc = .ok (.getfield 9, 3)) (kk : W p l e R s m args below meth c H locs cells slots Q (F0 m (pc + 3) ls (v :: rest))) : W p l e R s m args below meth c H locs cells slots Q (F0 m pc ls (.ref x :: rest)) :=
  va_get C0.1 C0.2.1 C0.2.2.2.2.1 iw_MO C0.2.2.2.1 C0.2.2.2.2.2.1 hP q0 he rfl 0 (by decide) (C0.2.2.2.2.1 _ k_MO_9) (fun _ h => h) hv hdg kk
theorem pf_MO_9 (C0 : cX p m c cc nL s args R_MO g classes tys) (hin : meth.name = "<init>") (hB : wB g classes A H0 w H locs) (q0 : Nat) (he : w[q0]? = some (x, .inr (5, fs))) (hl : 0 < fs.length) (hn : narrow (.array .int) v = v) (hfit : fits (.array .int) v = true) (hw : w.set q0 (x, .inr (5, fs.set 0 v)) = w') (hdg : decode cc pc = .ok (.putfield 9, 3)) (kk : ∀ (H1 : Heap) (locs1 : List Loc), wB g classes A H0 w' H1 locs1 → W p l e R s m args below meth c H1 locs1 cells slots Q (F0 m (pc + 3) ls rest)) : W p l e R s m args below meth c H locs cells slots Q (F0 m pc ls (v :: .ref x :: rest)) := by
  subst hw
  exact va_putF C0.1 C0.2.1 C0.2.2.2.2.1 iw_MO t_MO t_MO_ok n_MO C0.2.2.2.1 C0.2.2.2.2.2.1 hB.1 hB.2.1 hB.2.2.1 q0 he rfl 0 (by decide) (C0.2.2.2.2.1 _ k_MO_9) (fun _ h => h) rfl hin rfl (by decide +kernel) hn hfit hl hdg (fun H1 locs1 hP hD hS => kk H1 locs1 ⟨hP, hD, hS, hB.2.2.2⟩)
theorem k_MO_13 : Cond.fieldLink R_MO 13 R_MO "empty" "[Z" ∈ gT := gT_in (List.mem_of_getElem? (i := 392) (by decide +kernel)) (by decide +kernel)
theorem gf_MO_13 (C0 : cX p m c cc nL s args R_MO g classes tys) (hP : va_P g classes w H) (q0 : Nat) (he : w[q0]? = some (x, .inr (5, fs))) (hv : fs[1]? = some v) (hdg : decode cc pc = .ok (.getfield 13, 3)) (kk : W p l e R s m args below meth c H locs cells slots Q (F0 m (pc + 3) ls (v :: rest))) : W p l e R s m args below meth c H locs cells slots Q (F0 m pc ls (.ref x :: rest)) :=
  va_get C0.1 C0.2.1 C0.2.2.2.2.1 iw_MO C0.2.2.2.1 C0.2.2.2.2.2.1 hP q0 he rfl 1 (by decide) (C0.2.2.2.2.1 _ k_MO_13) (fun _ h => h) hv hdg kk
theorem pf_MO_13 (C0 : cX p m c cc nL s args R_MO g classes tys) (hin : meth.name = "<init>") (hB : wB g classes A H0 w H locs) (q0 : Nat) (he : w[q0]? = some (x, .inr (5, fs))) (hl : 1 < fs.length) (hn : narrow (.array .boolean) v = v) (hfit : fits (.array .boolean) v = true) (hw : w.set q0 (x, .inr (5, fs.set 1 v)) = w') (hdg : decode cc pc = .ok (.putfield 13, 3)) (kk : ∀ (H1 : Heap) (locs1 : List Loc), wB g classes A H0 w' H1 locs1 → W p l e R s m args below meth c H1 locs1 cells slots Q (F0 m (pc + 3) ls rest)) : W p l e R s m args below meth c H locs cells slots Q (F0 m pc ls (v :: .ref x :: rest)) := by
  subst hw
  exact va_putF C0.1 C0.2.1 C0.2.2.2.2.1 iw_MO t_MO t_MO_ok n_MO C0.2.2.2.1 C0.2.2.2.2.2.1 hB.1 hB.2.1 hB.2.2.1 q0 he rfl 1 (by decide) (C0.2.2.2.2.1 _ k_MO_13) (fun _ h => h) rfl hin rfl (by decide +kernel) hn hfit hl hdg (fun H1 locs1 hP hD hS => kk H1 locs1 ⟨hP, hD, hS, hB.2.2.2⟩)
theorem k_MO_17 : Cond.fieldLink R_MO 17 R_MO "barred" "[Z" ∈ gT := gT_in (List.mem_of_getElem? (i := 393) (by decide +kernel)) (by decide +kernel)
theorem gf_MO_17 (C0 : cX p m c cc nL s args R_MO g classes tys) (hP : va_P g classes w H) (q0 : Nat) (he : w[q0]? = some (x, .inr (5, fs))) (hv : fs[2]? = some v) (hdg : decode cc pc = .ok (.getfield 17, 3)) (kk : W p l e R s m args below meth c H locs cells slots Q (F0 m (pc + 3) ls (v :: rest))) : W p l e R s m args below meth c H locs cells slots Q (F0 m pc ls (.ref x :: rest)) :=
  va_get C0.1 C0.2.1 C0.2.2.2.2.1 iw_MO C0.2.2.2.1 C0.2.2.2.2.2.1 hP q0 he rfl 2 (by decide) (C0.2.2.2.2.1 _ k_MO_17) (fun _ h => h) hv hdg kk
theorem pf_MO_17 (C0 : cX p m c cc nL s args R_MO g classes tys) (hin : meth.name = "<init>") (hB : wB g classes A H0 w H locs) (q0 : Nat) (he : w[q0]? = some (x, .inr (5, fs))) (hl : 2 < fs.length) (hn : narrow (.array .boolean) v = v) (hfit : fits (.array .boolean) v = true) (hw : w.set q0 (x, .inr (5, fs.set 2 v)) = w') (hdg : decode cc pc = .ok (.putfield 17, 3)) (kk : ∀ (H1 : Heap) (locs1 : List Loc), wB g classes A H0 w' H1 locs1 → W p l e R s m args below meth c H1 locs1 cells slots Q (F0 m (pc + 3) ls rest)) : W p l e R s m args below meth c H locs cells slots Q (F0 m pc ls (v :: .ref x :: rest)) := by
  subst hw
  exact va_putF C0.1 C0.2.1 C0.2.2.2.2.1 iw_MO t_MO t_MO_ok n_MO C0.2.2.2.1 C0.2.2.2.2.2.1 hB.1 hB.2.1 hB.2.2.1 q0 he rfl 2 (by decide) (C0.2.2.2.2.1 _ k_MO_17) (fun _ h => h) rfl hin rfl (by decide +kernel) hn hfit hl hdg (fun H1 locs1 hP hD hS => kk H1 locs1 ⟨hP, hD, hS, hB.2.2.2⟩)
theorem k_MO_20 : Cond.fieldLink R_MO 20 R_MO "in" "[I" ∈ gT := gT_in (List.mem_of_getElem? (i := 394) (by decide +kernel)) (by decide +kernel)
theorem gf_MO_20 (C0 : cX p m c cc nL s args R_MO g classes tys) (hP : va_P g classes w H) (q0 : Nat) (he : w[q0]? = some (x, .inr (5, fs))) (hv : fs[3]? = some v) (hdg : decode cc pc = .ok (.getfield 20, 3)) (kk : W p l e R s m args below meth c H locs cells slots Q (F0 m (pc + 3) ls (v :: rest))) : W p l e R s m args below meth c H locs cells slots Q (F0 m pc ls (.ref x :: rest)) :=
  va_get C0.1 C0.2.1 C0.2.2.2.2.1 iw_MO C0.2.2.2.1 C0.2.2.2.2.2.1 hP q0 he rfl 3 (by decide) (C0.2.2.2.2.1 _ k_MO_20) (fun _ h => h) hv hdg kk
theorem pf_MO_20 (C0 : cX p m c cc nL s args R_MO g classes tys) (hin : meth.name = "<init>") (hB : wB g classes A H0 w H locs) (q0 : Nat) (he : w[q0]? = some (x, .inr (5, fs))) (hl : 3 < fs.length) (hn : narrow (.array .int) v = v) (hfit : fits (.array .int) v = true) (hw : w.set q0 (x, .inr (5, fs.set 3 v)) = w') (hdg : decode cc pc = .ok (.putfield 20, 3)) (kk : ∀ (H1 : Heap) (locs1 : List Loc), wB g classes A H0 w' H1 locs1 → W p l e R s m args below meth c H1 locs1 cells slots Q (F0 m (pc + 3) ls rest)) : W p l e R s m args below meth c H locs cells slots Q (F0 m pc ls (v :: .ref x :: rest)) := by
  subst hw
  exact va_putF C0.1 C0.2.1 C0.2.2.2.2.1 iw_MO t_MO t_MO_ok n_MO C0.2.2.2.1 C0.2.2.2.2.2.1 hB.1 hB.2.1 hB.2.2.1 q0 he rfl 3 (by decide) (C0.2.2.2.2.1 _ k_MO_20) (fun _ h => h) rfl hin rfl (by decide +kernel) hn hfit hl hdg (fun H1 locs1 hP hD hS => kk H1 locs1 ⟨hP, hD, hS, hB.2.2.2⟩)
theorem k_MO_23 : Cond.fieldLink R_MO 23 R_MO "out" "[I" ∈ gT := gT_in (List.mem_of_getElem? (i := 395) (by decide +kernel)) (by decide +kernel)
theorem gf_MO_23 (C0 : cX p m c cc nL s args R_MO g classes tys) (hP : va_P g classes w H) (q0 : Nat) (he : w[q0]? = some (x, .inr (5, fs))) (hv : fs[4]? = some v) (hdg : decode cc pc = .ok (.getfield 23, 3)) (kk : W p l e R s m args below meth c H locs cells slots Q (F0 m (pc + 3) ls (v :: rest))) : W p l e R s m args below meth c H locs cells slots Q (F0 m pc ls (.ref x :: rest)) :=
  va_get C0.1 C0.2.1 C0.2.2.2.2.1 iw_MO C0.2.2.2.1 C0.2.2.2.2.2.1 hP q0 he rfl 4 (by decide) (C0.2.2.2.2.1 _ k_MO_23) (fun _ h => h) hv hdg kk
theorem pf_MO_23 (C0 : cX p m c cc nL s args R_MO g classes tys) (hin : meth.name = "<init>") (hB : wB g classes A H0 w H locs) (q0 : Nat) (he : w[q0]? = some (x, .inr (5, fs))) (hl : 4 < fs.length) (hn : narrow (.array .int) v = v) (hfit : fits (.array .int) v = true) (hw : w.set q0 (x, .inr (5, fs.set 4 v)) = w') (hdg : decode cc pc = .ok (.putfield 23, 3)) (kk : ∀ (H1 : Heap) (locs1 : List Loc), wB g classes A H0 w' H1 locs1 → W p l e R s m args below meth c H1 locs1 cells slots Q (F0 m (pc + 3) ls rest)) : W p l e R s m args below meth c H locs cells slots Q (F0 m pc ls (v :: .ref x :: rest)) := by
  subst hw
  exact va_putF C0.1 C0.2.1 C0.2.2.2.2.1 iw_MO t_MO t_MO_ok n_MO C0.2.2.2.1 C0.2.2.2.2.2.1 hB.1 hB.2.1 hB.2.2.1 q0 he rfl 4 (by decide) (C0.2.2.2.2.1 _ k_MO_23) (fun _ h => h) rfl hin rfl (by decide +kernel) hn hfit hl hdg (fun H1 locs1 hP hD hS => kk H1 locs1 ⟨hP, hD, hS, hB.2.2.2⟩)
theorem k_MO_66 : Cond.fieldLink R_MO 66 R_MO "things" "I" ∈ gT := gT_in (List.mem_of_getElem? (i := 396) (by decide +kernel)) (by decide +kernel)
theorem gf_MO_66 (C0 : cX p m c cc nL s args R_MO g classes tys) (hP : va_P g classes w H) (q0 : Nat) (he : w[q0]? = some (x, .inr (5, fs))) (hv : fs[5]? = some v) (hdg : decode cc pc = .ok (.getfield 66, 3)) (kk : W p l e R s m args below meth c H locs cells slots Q (F0 m (pc + 3) ls (v :: rest))) : W p l e R s m args below meth c H locs cells slots Q (F0 m pc ls (.ref x :: rest)) :=
  va_get C0.1 C0.2.1 C0.2.2.2.2.1 iw_MO C0.2.2.2.1 C0.2.2.2.2.2.1 hP q0 he rfl 5 (by decide) (C0.2.2.2.2.1 _ k_MO_66) (fun _ h => h) hv hdg kk
theorem pf_MO_66 (C0 : cX p m c cc nL s args R_MO g classes tys) (hB : wB g classes A H0 w H locs) (q0 : Nat) (he : w[q0]? = some (x, .inr (5, fs))) (hl : 5 < fs.length) (hn : narrow .int v = v) (hfit : fits .int v = true) (hw : w.set q0 (x, .inr (5, fs.set 5 v)) = w') (hdg : decode cc pc = .ok (.putfield 66, 3)) (kk : ∀ (H1 : Heap) (locs1 : List Loc), wB g classes A H0 w' H1 locs1 → W p l e R s m args below meth c H1 locs1 cells slots Q (F0 m (pc + 3) ls rest)) : W p l e R s m args below meth c H locs cells slots Q (F0 m pc ls (v :: .ref x :: rest)) := by
  subst hw
  exact va_put C0.1 C0.2.1 C0.2.2.2.2.1 iw_MO t_MO t_MO_ok n_MO C0.2.2.2.1 C0.2.2.2.2.2.1 hB.1 hB.2.1 hB.2.2.1 q0 he rfl 5 (by decide) (C0.2.2.2.2.1 _ k_MO_66) (fun _ h => h) rfl (by decide +kernel) hn hfit hl hdg (fun H1 locs1 hP hD hS => kk H1 locs1 ⟨hP, hD, hS, hB.2.2.2⟩)
theorem k_MO_26 : Cond.fieldLink R_MO 26 R_MO "endA" "[I" ∈ gT := gT_in (List.mem_of_getElem? (i := 397) (by decide +kernel)) (by decide +kernel)
theorem gf_MO_26 (C0 : cX p m c cc nL s args R_MO g classes tys) (hP : va_P g classes w H) (q0 : Nat) (he : w[q0]? = some (x, .inr (5, fs))) (hv : fs[6]? = some v) (hdg : decode cc pc = .ok (.getfield 26, 3)) (kk : W p l e R s m args below meth c H locs cells slots Q (F0 m (pc + 3) ls (v :: rest))) : W p l e R s m args below meth c H locs cells slots Q (F0 m pc ls (.ref x :: rest)) :=
  va_get C0.1 C0.2.1 C0.2.2.2.2.1 iw_MO C0.2.2.2.1 C0.2.2.2.2.2.1 hP q0 he rfl 6 (by decide) (C0.2.2.2.2.1 _ k_MO_26) (fun _ h => h) hv hdg kk
theorem pf_MO_26 (C0 : cX p m c cc nL s args R_MO g classes tys) (hin : meth.name = "<init>") (hB : wB g classes A H0 w H locs) (q0 : Nat) (he : w[q0]? = some (x, .inr (5, fs))) (hl : 6 < fs.length) (hn : narrow (.array .int) v = v) (hfit : fits (.array .int) v = true) (hw : w.set q0 (x, .inr (5, fs.set 6 v)) = w') (hdg : decode cc pc = .ok (.putfield 26, 3)) (kk : ∀ (H1 : Heap) (locs1 : List Loc), wB g classes A H0 w' H1 locs1 → W p l e R s m args below meth c H1 locs1 cells slots Q (F0 m (pc + 3) ls rest)) : W p l e R s m args below meth c H locs cells slots Q (F0 m pc ls (v :: .ref x :: rest)) := by
  subst hw
  exact va_putF C0.1 C0.2.1 C0.2.2.2.2.1 iw_MO t_MO t_MO_ok n_MO C0.2.2.2.1 C0.2.2.2.2.2.1 hB.1 hB.2.1 hB.2.2.1 q0 he rfl 6 (by decide) (C0.2.2.2.2.1 _ k_MO_26) (fun _ h => h) rfl hin rfl (by decide +kernel) hn hfit hl hdg (fun H1 locs1 hP hD hS => kk H1 locs1 ⟨hP, hD, hS, hB.2.2.2⟩)
theorem k_MO_29 : Cond.fieldLink R_MO 29 R_MO "endB" "[I" ∈ gT := gT_in (List.mem_of_getElem? (i := 398) (by decide +kernel)) (by decide +kernel)
theorem gf_MO_29 (C0 : cX p m c cc nL s args R_MO g classes tys) (hP : va_P g classes w H) (q0 : Nat) (he : w[q0]? = some (x, .inr (5, fs))) (hv : fs[7]? = some v) (hdg : decode cc pc = .ok (.getfield 29, 3)) (kk : W p l e R s m args below meth c H locs cells slots Q (F0 m (pc + 3) ls (v :: rest))) : W p l e R s m args below meth c H locs cells slots Q (F0 m pc ls (.ref x :: rest)) :=
  va_get C0.1 C0.2.1 C0.2.2.2.2.1 iw_MO C0.2.2.2.1 C0.2.2.2.2.2.1 hP q0 he rfl 7 (by decide) (C0.2.2.2.2.1 _ k_MO_29) (fun _ h => h) hv hdg kk
theorem pf_MO_29 (C0 : cX p m c cc nL s args R_MO g classes tys) (hin : meth.name = "<init>") (hB : wB g classes A H0 w H locs) (q0 : Nat) (he : w[q0]? = some (x, .inr (5, fs))) (hl : 7 < fs.length) (hn : narrow (.array .int) v = v) (hfit : fits (.array .int) v = true) (hw : w.set q0 (x, .inr (5, fs.set 7 v)) = w') (hdg : decode cc pc = .ok (.putfield 29, 3)) (kk : ∀ (H1 : Heap) (locs1 : List Loc), wB g classes A H0 w' H1 locs1 → W p l e R s m args below meth c H1 locs1 cells slots Q (F0 m (pc + 3) ls rest)) : W p l e R s m args below meth c H locs cells slots Q (F0 m pc ls (v :: .ref x :: rest)) := by
  subst hw
  exact va_putF C0.1 C0.2.1 C0.2.2.2.2.1 iw_MO t_MO t_MO_ok n_MO C0.2.2.2.1 C0.2.2.2.2.2.1 hB.1 hB.2.1 hB.2.2.1 q0 he rfl 7 (by decide) (C0.2.2.2.2.1 _ k_MO_29) (fun _ h => h) rfl hin rfl (by decide +kernel) hn hfit hl hdg (fun H1 locs1 hP hD hS => kk H1 locs1 ⟨hP, hD, hS, hB.2.2.2⟩)
theorem k_MO_32 : Cond.fieldLink R_MO 32 R_MO "litres" "[J" ∈ gT := gT_in (List.mem_of_getElem? (i := 399) (by decide +kernel)) (by decide +kernel)
theorem gf_MO_32 (C0 : cX p m c cc nL s args R_MO g classes tys) (hP : va_P g classes w H) (q0 : Nat) (he : w[q0]? = some (x, .inr (5, fs))) (hv : fs[8]? = some v) (hdg : decode cc pc = .ok (.getfield 32, 3)) (kk : W p l e R s m args below meth c H locs cells slots Q (F0 m (pc + 3) ls (v :: rest))) : W p l e R s m args below meth c H locs cells slots Q (F0 m pc ls (.ref x :: rest)) :=
  va_get C0.1 C0.2.1 C0.2.2.2.2.1 iw_MO C0.2.2.2.1 C0.2.2.2.2.2.1 hP q0 he rfl 8 (by decide) (C0.2.2.2.2.1 _ k_MO_32) (fun _ h => h) hv hdg kk
theorem pf_MO_32 (C0 : cX p m c cc nL s args R_MO g classes tys) (hin : meth.name = "<init>") (hB : wB g classes A H0 w H locs) (q0 : Nat) (he : w[q0]? = some (x, .inr (5, fs))) (hl : 8 < fs.length) (hn : narrow (.array .long) v = v) (hfit : fits (.array .long) v = true) (hw : w.set q0 (x, .inr (5, fs.set 8 v)) = w') (hdg : decode cc pc = .ok (.putfield 32, 3)) (kk : ∀ (H1 : Heap) (locs1 : List Loc), wB g classes A H0 w' H1 locs1 → W p l e R s m args below meth c H1 locs1 cells slots Q (F0 m (pc + 3) ls rest)) : W p l e R s m args below meth c H locs cells slots Q (F0 m pc ls (v :: .ref x :: rest)) := by
  subst hw
  exact va_putF C0.1 C0.2.1 C0.2.2.2.2.1 iw_MO t_MO t_MO_ok n_MO C0.2.2.2.1 C0.2.2.2.2.2.1 hB.1 hB.2.1 hB.2.2.1 q0 he rfl 8 (by decide) (C0.2.2.2.2.1 _ k_MO_32) (fun _ h => h) rfl hin rfl (by decide +kernel) hn hfit hl hdg (fun H1 locs1 hP hD hS => kk H1 locs1 ⟨hP, hD, hS, hB.2.2.2⟩)
theorem k_MO_36 : Cond.fieldLink R_MO 36 R_MO "runs" "[Z" ∈ gT := gT_in (List.mem_of_getElem? (i := 400) (by decide +kernel)) (by decide +kernel)
theorem gf_MO_36 (C0 : cX p m c cc nL s args R_MO g classes tys) (hP : va_P g classes w H) (q0 : Nat) (he : w[q0]? = some (x, .inr (5, fs))) (hv : fs[9]? = some v) (hdg : decode cc pc = .ok (.getfield 36, 3)) (kk : W p l e R s m args below meth c H locs cells slots Q (F0 m (pc + 3) ls (v :: rest))) : W p l e R s m args below meth c H locs cells slots Q (F0 m pc ls (.ref x :: rest)) :=
  va_get C0.1 C0.2.1 C0.2.2.2.2.1 iw_MO C0.2.2.2.1 C0.2.2.2.2.2.1 hP q0 he rfl 9 (by decide) (C0.2.2.2.2.1 _ k_MO_36) (fun _ h => h) hv hdg kk
theorem pf_MO_36 (C0 : cX p m c cc nL s args R_MO g classes tys) (hin : meth.name = "<init>") (hB : wB g classes A H0 w H locs) (q0 : Nat) (he : w[q0]? = some (x, .inr (5, fs))) (hl : 9 < fs.length) (hn : narrow (.array .boolean) v = v) (hfit : fits (.array .boolean) v = true) (hw : w.set q0 (x, .inr (5, fs.set 9 v)) = w') (hdg : decode cc pc = .ok (.putfield 36, 3)) (kk : ∀ (H1 : Heap) (locs1 : List Loc), wB g classes A H0 w' H1 locs1 → W p l e R s m args below meth c H1 locs1 cells slots Q (F0 m (pc + 3) ls rest)) : W p l e R s m args below meth c H locs cells slots Q (F0 m pc ls (v :: .ref x :: rest)) := by
  subst hw
  exact va_putF C0.1 C0.2.1 C0.2.2.2.2.1 iw_MO t_MO t_MO_ok n_MO C0.2.2.2.1 C0.2.2.2.2.2.1 hB.1 hB.2.1 hB.2.2.1 q0 he rfl 9 (by decide) (C0.2.2.2.2.1 _ k_MO_36) (fun _ h => h) rfl hin rfl (by decide +kernel) hn hfit hl hdg (fun H1 locs1 hP hD hS => kk H1 locs1 ⟨hP, hD, hS, hB.2.2.2⟩)
theorem k_MO_80 : Cond.fieldLink R_MO 80 R_MO "pipes" "I" ∈ gT := gT_in (List.mem_of_getElem? (i := 401) (by decide +kernel)) (by decide +kernel)
theorem gf_MO_80 (C0 : cX p m c cc nL s args R_MO g classes tys) (hP : va_P g classes w H) (q0 : Nat) (he : w[q0]? = some (x, .inr (5, fs))) (hv : fs[10]? = some v) (hdg : decode cc pc = .ok (.getfield 80, 3)) (kk : W p l e R s m args below meth c H locs cells slots Q (F0 m (pc + 3) ls (v :: rest))) : W p l e R s m args below meth c H locs cells slots Q (F0 m pc ls (.ref x :: rest)) :=
  va_get C0.1 C0.2.1 C0.2.2.2.2.1 iw_MO C0.2.2.2.1 C0.2.2.2.2.2.1 hP q0 he rfl 10 (by decide) (C0.2.2.2.2.1 _ k_MO_80) (fun _ h => h) hv hdg kk
theorem pf_MO_80 (C0 : cX p m c cc nL s args R_MO g classes tys) (hB : wB g classes A H0 w H locs) (q0 : Nat) (he : w[q0]? = some (x, .inr (5, fs))) (hl : 10 < fs.length) (hn : narrow .int v = v) (hfit : fits .int v = true) (hw : w.set q0 (x, .inr (5, fs.set 10 v)) = w') (hdg : decode cc pc = .ok (.putfield 80, 3)) (kk : ∀ (H1 : Heap) (locs1 : List Loc), wB g classes A H0 w' H1 locs1 → W p l e R s m args below meth c H1 locs1 cells slots Q (F0 m (pc + 3) ls rest)) : W p l e R s m args below meth c H locs cells slots Q (F0 m pc ls (v :: .ref x :: rest)) := by
  subst hw
  exact va_put C0.1 C0.2.1 C0.2.2.2.2.1 iw_MO t_MO t_MO_ok n_MO C0.2.2.2.1 C0.2.2.2.2.2.1 hB.1 hB.2.1 hB.2.2.1 q0 he rfl 10 (by decide) (C0.2.2.2.2.1 _ k_MO_80) (fun _ h => h) rfl (by decide +kernel) hn hfit hl hdg (fun H1 locs1 hP hD hS => kk H1 locs1 ⟨hP, hD, hS, hB.2.2.2⟩)
theorem k_MO_39 : Cond.fieldLink R_MO 39 R_MO "wayPipes" "[I" ∈ gT := gT_in (List.mem_of_getElem? (i := 402) (by decide +kernel)) (by decide +kernel)
theorem gf_MO_39 (C0 : cX p m c cc nL s args R_MO g classes tys) (hP : va_P g classes w H) (q0 : Nat) (he : w[q0]? = some (x, .inr (5, fs))) (hv : fs[11]? = some v) (hdg : decode cc pc = .ok (.getfield 39, 3)) (kk : W p l e R s m args below meth c H locs cells slots Q (F0 m (pc + 3) ls (v :: rest))) : W p l e R s m args below meth c H locs cells slots Q (F0 m pc ls (.ref x :: rest)) :=
  va_get C0.1 C0.2.1 C0.2.2.2.2.1 iw_MO C0.2.2.2.1 C0.2.2.2.2.2.1 hP q0 he rfl 11 (by decide) (C0.2.2.2.2.1 _ k_MO_39) (fun _ h => h) hv hdg kk
theorem pf_MO_39 (C0 : cX p m c cc nL s args R_MO g classes tys) (hin : meth.name = "<init>") (hB : wB g classes A H0 w H locs) (q0 : Nat) (he : w[q0]? = some (x, .inr (5, fs))) (hl : 11 < fs.length) (hn : narrow (.array .int) v = v) (hfit : fits (.array .int) v = true) (hw : w.set q0 (x, .inr (5, fs.set 11 v)) = w') (hdg : decode cc pc = .ok (.putfield 39, 3)) (kk : ∀ (H1 : Heap) (locs1 : List Loc), wB g classes A H0 w' H1 locs1 → W p l e R s m args below meth c H1 locs1 cells slots Q (F0 m (pc + 3) ls rest)) : W p l e R s m args below meth c H locs cells slots Q (F0 m pc ls (v :: .ref x :: rest)) := by
  subst hw
  exact va_putF C0.1 C0.2.1 C0.2.2.2.2.1 iw_MO t_MO t_MO_ok n_MO C0.2.2.2.1 C0.2.2.2.2.2.1 hB.1 hB.2.1 hB.2.2.1 q0 he rfl 11 (by decide) (C0.2.2.2.2.1 _ k_MO_39) (fun _ h => h) rfl hin rfl (by decide +kernel) hn hfit hl hdg (fun H1 locs1 hP hD hS => kk H1 locs1 ⟨hP, hD, hS, hB.2.2.2⟩)
theorem k_MO_42 : Cond.fieldLink R_MO 42 R_MO "wayLength" "[I" ∈ gT := gT_in (List.mem_of_getElem? (i := 403) (by decide +kernel)) (by decide +kernel)
theorem gf_MO_42 (C0 : cX p m c cc nL s args R_MO g classes tys) (hP : va_P g classes w H) (q0 : Nat) (he : w[q0]? = some (x, .inr (5, fs))) (hv : fs[12]? = some v) (hdg : decode cc pc = .ok (.getfield 42, 3)) (kk : W p l e R s m args below meth c H locs cells slots Q (F0 m (pc + 3) ls (v :: rest))) : W p l e R s m args below meth c H locs cells slots Q (F0 m pc ls (.ref x :: rest)) :=
  va_get C0.1 C0.2.1 C0.2.2.2.2.1 iw_MO C0.2.2.2.1 C0.2.2.2.2.2.1 hP q0 he rfl 12 (by decide) (C0.2.2.2.2.1 _ k_MO_42) (fun _ h => h) hv hdg kk
theorem pf_MO_42 (C0 : cX p m c cc nL s args R_MO g classes tys) (hin : meth.name = "<init>") (hB : wB g classes A H0 w H locs) (q0 : Nat) (he : w[q0]? = some (x, .inr (5, fs))) (hl : 12 < fs.length) (hn : narrow (.array .int) v = v) (hfit : fits (.array .int) v = true) (hw : w.set q0 (x, .inr (5, fs.set 12 v)) = w') (hdg : decode cc pc = .ok (.putfield 42, 3)) (kk : ∀ (H1 : Heap) (locs1 : List Loc), wB g classes A H0 w' H1 locs1 → W p l e R s m args below meth c H1 locs1 cells slots Q (F0 m (pc + 3) ls rest)) : W p l e R s m args below meth c H locs cells slots Q (F0 m pc ls (v :: .ref x :: rest)) := by
  subst hw
  exact va_putF C0.1 C0.2.1 C0.2.2.2.2.1 iw_MO t_MO t_MO_ok n_MO C0.2.2.2.1 C0.2.2.2.2.2.1 hB.1 hB.2.1 hB.2.2.1 q0 he rfl 12 (by decide) (C0.2.2.2.2.1 _ k_MO_42) (fun _ h => h) rfl hin rfl (by decide +kernel) hn hfit hl hdg (fun H1 locs1 hP hD hS => kk H1 locs1 ⟨hP, hD, hS, hB.2.2.2⟩)
theorem k_MO_45 : Cond.fieldLink R_MO 45 R_MO "wayFrom" "[I" ∈ gT := gT_in (List.mem_of_getElem? (i := 404) (by decide +kernel)) (by decide +kernel)
theorem gf_MO_45 (C0 : cX p m c cc nL s args R_MO g classes tys) (hP : va_P g classes w H) (q0 : Nat) (he : w[q0]? = some (x, .inr (5, fs))) (hv : fs[13]? = some v) (hdg : decode cc pc = .ok (.getfield 45, 3)) (kk : W p l e R s m args below meth c H locs cells slots Q (F0 m (pc + 3) ls (v :: rest))) : W p l e R s m args below meth c H locs cells slots Q (F0 m pc ls (.ref x :: rest)) :=
  va_get C0.1 C0.2.1 C0.2.2.2.2.1 iw_MO C0.2.2.2.1 C0.2.2.2.2.2.1 hP q0 he rfl 13 (by decide) (C0.2.2.2.2.1 _ k_MO_45) (fun _ h => h) hv hdg kk
theorem pf_MO_45 (C0 : cX p m c cc nL s args R_MO g classes tys) (hin : meth.name = "<init>") (hB : wB g classes A H0 w H locs) (q0 : Nat) (he : w[q0]? = some (x, .inr (5, fs))) (hl : 13 < fs.length) (hn : narrow (.array .int) v = v) (hfit : fits (.array .int) v = true) (hw : w.set q0 (x, .inr (5, fs.set 13 v)) = w') (hdg : decode cc pc = .ok (.putfield 45, 3)) (kk : ∀ (H1 : Heap) (locs1 : List Loc), wB g classes A H0 w' H1 locs1 → W p l e R s m args below meth c H1 locs1 cells slots Q (F0 m (pc + 3) ls rest)) : W p l e R s m args below meth c H locs cells slots Q (F0 m pc ls (v :: .ref x :: rest)) := by
  subst hw
  exact va_putF C0.1 C0.2.1 C0.2.2.2.2.1 iw_MO t_MO t_MO_ok n_MO C0.2.2.2.1 C0.2.2.2.2.2.1 hB.1 hB.2.1 hB.2.2.1 q0 he rfl 13 (by decide) (C0.2.2.2.2.1 _ k_MO_45) (fun _ h => h) rfl hin rfl (by decide +kernel) hn hfit hl hdg (fun H1 locs1 hP hD hS => kk H1 locs1 ⟨hP, hD, hS, hB.2.2.2⟩)
theorem k_MO_48 : Cond.fieldLink R_MO 48 R_MO "wayTo" "[I" ∈ gT := gT_in (List.mem_of_getElem? (i := 405) (by decide +kernel)) (by decide +kernel)
theorem gf_MO_48 (C0 : cX p m c cc nL s args R_MO g classes tys) (hP : va_P g classes w H) (q0 : Nat) (he : w[q0]? = some (x, .inr (5, fs))) (hv : fs[14]? = some v) (hdg : decode cc pc = .ok (.getfield 48, 3)) (kk : W p l e R s m args below meth c H locs cells slots Q (F0 m (pc + 3) ls (v :: rest))) : W p l e R s m args below meth c H locs cells slots Q (F0 m pc ls (.ref x :: rest)) :=
  va_get C0.1 C0.2.1 C0.2.2.2.2.1 iw_MO C0.2.2.2.1 C0.2.2.2.2.2.1 hP q0 he rfl 14 (by decide) (C0.2.2.2.2.1 _ k_MO_48) (fun _ h => h) hv hdg kk
theorem pf_MO_48 (C0 : cX p m c cc nL s args R_MO g classes tys) (hin : meth.name = "<init>") (hB : wB g classes A H0 w H locs) (q0 : Nat) (he : w[q0]? = some (x, .inr (5, fs))) (hl : 14 < fs.length) (hn : narrow (.array .int) v = v) (hfit : fits (.array .int) v = true) (hw : w.set q0 (x, .inr (5, fs.set 14 v)) = w') (hdg : decode cc pc = .ok (.putfield 48, 3)) (kk : ∀ (H1 : Heap) (locs1 : List Loc), wB g classes A H0 w' H1 locs1 → W p l e R s m args below meth c H1 locs1 cells slots Q (F0 m (pc + 3) ls rest)) : W p l e R s m args below meth c H locs cells slots Q (F0 m pc ls (v :: .ref x :: rest)) := by
  subst hw
  exact va_putF C0.1 C0.2.1 C0.2.2.2.2.1 iw_MO t_MO t_MO_ok n_MO C0.2.2.2.1 C0.2.2.2.2.2.1 hB.1 hB.2.1 hB.2.2.1 q0 he rfl 14 (by decide) (C0.2.2.2.2.1 _ k_MO_48) (fun _ h => h) rfl hin rfl (by decide +kernel) hn hfit hl hdg (fun H1 locs1 hP hD hS => kk H1 locs1 ⟨hP, hD, hS, hB.2.2.2⟩)
theorem k_MO_116 : Cond.fieldLink R_MO 116 R_MO "ways" "I" ∈ gT := gT_in (List.mem_of_getElem? (i := 406) (by decide +kernel)) (by decide +kernel)
theorem gf_MO_116 (C0 : cX p m c cc nL s args R_MO g classes tys) (hP : va_P g classes w H) (q0 : Nat) (he : w[q0]? = some (x, .inr (5, fs))) (hv : fs[15]? = some v) (hdg : decode cc pc = .ok (.getfield 116, 3)) (kk : W p l e R s m args below meth c H locs cells slots Q (F0 m (pc + 3) ls (v :: rest))) : W p l e R s m args below meth c H locs cells slots Q (F0 m pc ls (.ref x :: rest)) :=
  va_get C0.1 C0.2.1 C0.2.2.2.2.1 iw_MO C0.2.2.2.1 C0.2.2.2.2.2.1 hP q0 he rfl 15 (by decide) (C0.2.2.2.2.1 _ k_MO_116) (fun _ h => h) hv hdg kk
theorem pf_MO_116 (C0 : cX p m c cc nL s args R_MO g classes tys) (hB : wB g classes A H0 w H locs) (q0 : Nat) (he : w[q0]? = some (x, .inr (5, fs))) (hl : 15 < fs.length) (hn : narrow .int v = v) (hfit : fits .int v = true) (hw : w.set q0 (x, .inr (5, fs.set 15 v)) = w') (hdg : decode cc pc = .ok (.putfield 116, 3)) (kk : ∀ (H1 : Heap) (locs1 : List Loc), wB g classes A H0 w' H1 locs1 → W p l e R s m args below meth c H1 locs1 cells slots Q (F0 m (pc + 3) ls rest)) : W p l e R s m args below meth c H locs cells slots Q (F0 m pc ls (v :: .ref x :: rest)) := by
  subst hw
  exact va_put C0.1 C0.2.1 C0.2.2.2.2.1 iw_MO t_MO t_MO_ok n_MO C0.2.2.2.1 C0.2.2.2.2.2.1 hB.1 hB.2.1 hB.2.2.1 q0 he rfl 15 (by decide) (C0.2.2.2.2.1 _ k_MO_116) (fun _ h => h) rfl (by decide +kernel) hn hfit hl hdg (fun H1 locs1 hP hD hS => kk H1 locs1 ⟨hP, hD, hS, hB.2.2.2⟩)
theorem k_MO_51 : Cond.fieldLink R_MO 51 R_MO "cost" "[J" ∈ gT := gT_in (List.mem_of_getElem? (i := 407) (by decide +kernel)) (by decide +kernel)
theorem gf_MO_51 (C0 : cX p m c cc nL s args R_MO g classes tys) (hP : va_P g classes w H) (q0 : Nat) (he : w[q0]? = some (x, .inr (5, fs))) (hv : fs[16]? = some v) (hdg : decode cc pc = .ok (.getfield 51, 3)) (kk : W p l e R s m args below meth c H locs cells slots Q (F0 m (pc + 3) ls (v :: rest))) : W p l e R s m args below meth c H locs cells slots Q (F0 m pc ls (.ref x :: rest)) :=
  va_get C0.1 C0.2.1 C0.2.2.2.2.1 iw_MO C0.2.2.2.1 C0.2.2.2.2.2.1 hP q0 he rfl 16 (by decide) (C0.2.2.2.2.1 _ k_MO_51) (fun _ h => h) hv hdg kk
theorem pf_MO_51 (C0 : cX p m c cc nL s args R_MO g classes tys) (hin : meth.name = "<init>") (hB : wB g classes A H0 w H locs) (q0 : Nat) (he : w[q0]? = some (x, .inr (5, fs))) (hl : 16 < fs.length) (hn : narrow (.array .long) v = v) (hfit : fits (.array .long) v = true) (hw : w.set q0 (x, .inr (5, fs.set 16 v)) = w') (hdg : decode cc pc = .ok (.putfield 51, 3)) (kk : ∀ (H1 : Heap) (locs1 : List Loc), wB g classes A H0 w' H1 locs1 → W p l e R s m args below meth c H1 locs1 cells slots Q (F0 m (pc + 3) ls rest)) : W p l e R s m args below meth c H locs cells slots Q (F0 m pc ls (v :: .ref x :: rest)) := by
  subst hw
  exact va_putF C0.1 C0.2.1 C0.2.2.2.2.1 iw_MO t_MO t_MO_ok n_MO C0.2.2.2.1 C0.2.2.2.2.2.1 hB.1 hB.2.1 hB.2.2.1 q0 he rfl 16 (by decide) (C0.2.2.2.2.1 _ k_MO_51) (fun _ h => h) rfl hin rfl (by decide +kernel) hn hfit hl hdg (fun H1 locs1 hP hD hS => kk H1 locs1 ⟨hP, hD, hS, hB.2.2.2⟩)
theorem k_MO_54 : Cond.fieldLink R_MO 54 R_MO "shutThing" "[Z" ∈ gT := gT_in (List.mem_of_getElem? (i := 408) (by decide +kernel)) (by decide +kernel)
theorem gf_MO_54 (C0 : cX p m c cc nL s args R_MO g classes tys) (hP : va_P g classes w H) (q0 : Nat) (he : w[q0]? = some (x, .inr (5, fs))) (hv : fs[17]? = some v) (hdg : decode cc pc = .ok (.getfield 54, 3)) (kk : W p l e R s m args below meth c H locs cells slots Q (F0 m (pc + 3) ls (v :: rest))) : W p l e R s m args below meth c H locs cells slots Q (F0 m pc ls (.ref x :: rest)) :=
  va_get C0.1 C0.2.1 C0.2.2.2.2.1 iw_MO C0.2.2.2.1 C0.2.2.2.2.2.1 hP q0 he rfl 17 (by decide) (C0.2.2.2.2.1 _ k_MO_54) (fun _ h => h) hv hdg kk
theorem pf_MO_54 (C0 : cX p m c cc nL s args R_MO g classes tys) (hin : meth.name = "<init>") (hB : wB g classes A H0 w H locs) (q0 : Nat) (he : w[q0]? = some (x, .inr (5, fs))) (hl : 17 < fs.length) (hn : narrow (.array .boolean) v = v) (hfit : fits (.array .boolean) v = true) (hw : w.set q0 (x, .inr (5, fs.set 17 v)) = w') (hdg : decode cc pc = .ok (.putfield 54, 3)) (kk : ∀ (H1 : Heap) (locs1 : List Loc), wB g classes A H0 w' H1 locs1 → W p l e R s m args below meth c H1 locs1 cells slots Q (F0 m (pc + 3) ls rest)) : W p l e R s m args below meth c H locs cells slots Q (F0 m pc ls (v :: .ref x :: rest)) := by
  subst hw
  exact va_putF C0.1 C0.2.1 C0.2.2.2.2.1 iw_MO t_MO t_MO_ok n_MO C0.2.2.2.1 C0.2.2.2.2.2.1 hB.1 hB.2.1 hB.2.2.1 q0 he rfl 17 (by decide) (C0.2.2.2.2.1 _ k_MO_54) (fun _ h => h) rfl hin rfl (by decide +kernel) hn hfit hl hdg (fun H1 locs1 hP hD hS => kk H1 locs1 ⟨hP, hD, hS, hB.2.2.2⟩)
theorem k_MO_57 : Cond.fieldLink R_MO 57 R_MO "shutPipe" "[Z" ∈ gT := gT_in (List.mem_of_getElem? (i := 409) (by decide +kernel)) (by decide +kernel)
theorem gf_MO_57 (C0 : cX p m c cc nL s args R_MO g classes tys) (hP : va_P g classes w H) (q0 : Nat) (he : w[q0]? = some (x, .inr (5, fs))) (hv : fs[18]? = some v) (hdg : decode cc pc = .ok (.getfield 57, 3)) (kk : W p l e R s m args below meth c H locs cells slots Q (F0 m (pc + 3) ls (v :: rest))) : W p l e R s m args below meth c H locs cells slots Q (F0 m pc ls (.ref x :: rest)) :=
  va_get C0.1 C0.2.1 C0.2.2.2.2.1 iw_MO C0.2.2.2.1 C0.2.2.2.2.2.1 hP q0 he rfl 18 (by decide) (C0.2.2.2.2.1 _ k_MO_57) (fun _ h => h) hv hdg kk
theorem pf_MO_57 (C0 : cX p m c cc nL s args R_MO g classes tys) (hin : meth.name = "<init>") (hB : wB g classes A H0 w H locs) (q0 : Nat) (he : w[q0]? = some (x, .inr (5, fs))) (hl : 18 < fs.length) (hn : narrow (.array .boolean) v = v) (hfit : fits (.array .boolean) v = true) (hw : w.set q0 (x, .inr (5, fs.set 18 v)) = w') (hdg : decode cc pc = .ok (.putfield 57, 3)) (kk : ∀ (H1 : Heap) (locs1 : List Loc), wB g classes A H0 w' H1 locs1 → W p l e R s m args below meth c H1 locs1 cells slots Q (F0 m (pc + 3) ls rest)) : W p l e R s m args below meth c H locs cells slots Q (F0 m pc ls (v :: .ref x :: rest)) := by
  subst hw
  exact va_putF C0.1 C0.2.1 C0.2.2.2.2.1 iw_MO t_MO t_MO_ok n_MO C0.2.2.2.1 C0.2.2.2.2.2.1 hB.1 hB.2.1 hB.2.2.1 q0 he rfl 18 (by decide) (C0.2.2.2.2.1 _ k_MO_57) (fun _ h => h) rfl hin rfl (by decide +kernel) hn hfit hl hdg (fun H1 locs1 hP hD hS => kk H1 locs1 ⟨hP, hD, hS, hB.2.2.2⟩)
theorem k_MO_60 : Cond.fieldLink R_MO 60 R_MO "savedA" "[I" ∈ gT := gT_in (List.mem_of_getElem? (i := 410) (by decide +kernel)) (by decide +kernel)
theorem gf_MO_60 (C0 : cX p m c cc nL s args R_MO g classes tys) (hP : va_P g classes w H) (q0 : Nat) (he : w[q0]? = some (x, .inr (5, fs))) (hv : fs[19]? = some v) (hdg : decode cc pc = .ok (.getfield 60, 3)) (kk : W p l e R s m args below meth c H locs cells slots Q (F0 m (pc + 3) ls (v :: rest))) : W p l e R s m args below meth c H locs cells slots Q (F0 m pc ls (.ref x :: rest)) :=
  va_get C0.1 C0.2.1 C0.2.2.2.2.1 iw_MO C0.2.2.2.1 C0.2.2.2.2.2.1 hP q0 he rfl 19 (by decide) (C0.2.2.2.2.1 _ k_MO_60) (fun _ h => h) hv hdg kk
theorem pf_MO_60 (C0 : cX p m c cc nL s args R_MO g classes tys) (hin : meth.name = "<init>") (hB : wB g classes A H0 w H locs) (q0 : Nat) (he : w[q0]? = some (x, .inr (5, fs))) (hl : 19 < fs.length) (hn : narrow (.array .int) v = v) (hfit : fits (.array .int) v = true) (hw : w.set q0 (x, .inr (5, fs.set 19 v)) = w') (hdg : decode cc pc = .ok (.putfield 60, 3)) (kk : ∀ (H1 : Heap) (locs1 : List Loc), wB g classes A H0 w' H1 locs1 → W p l e R s m args below meth c H1 locs1 cells slots Q (F0 m (pc + 3) ls rest)) : W p l e R s m args below meth c H locs cells slots Q (F0 m pc ls (v :: .ref x :: rest)) := by
  subst hw
  exact va_putF C0.1 C0.2.1 C0.2.2.2.2.1 iw_MO t_MO t_MO_ok n_MO C0.2.2.2.1 C0.2.2.2.2.2.1 hB.1 hB.2.1 hB.2.2.1 q0 he rfl 19 (by decide) (C0.2.2.2.2.1 _ k_MO_60) (fun _ h => h) rfl hin rfl (by decide +kernel) hn hfit hl hdg (fun H1 locs1 hP hD hS => kk H1 locs1 ⟨hP, hD, hS, hB.2.2.2⟩)
theorem k_MO_63 : Cond.fieldLink R_MO 63 R_MO "savedB" "[I" ∈ gT := gT_in (List.mem_of_getElem? (i := 411) (by decide +kernel)) (by decide +kernel)
theorem gf_MO_63 (C0 : cX p m c cc nL s args R_MO g classes tys) (hP : va_P g classes w H) (q0 : Nat) (he : w[q0]? = some (x, .inr (5, fs))) (hv : fs[20]? = some v) (hdg : decode cc pc = .ok (.getfield 63, 3)) (kk : W p l e R s m args below meth c H locs cells slots Q (F0 m (pc + 3) ls (v :: rest))) : W p l e R s m args below meth c H locs cells slots Q (F0 m pc ls (.ref x :: rest)) :=
  va_get C0.1 C0.2.1 C0.2.2.2.2.1 iw_MO C0.2.2.2.1 C0.2.2.2.2.2.1 hP q0 he rfl 20 (by decide) (C0.2.2.2.2.1 _ k_MO_63) (fun _ h => h) hv hdg kk
theorem pf_MO_63 (C0 : cX p m c cc nL s args R_MO g classes tys) (hin : meth.name = "<init>") (hB : wB g classes A H0 w H locs) (q0 : Nat) (he : w[q0]? = some (x, .inr (5, fs))) (hl : 20 < fs.length) (hn : narrow (.array .int) v = v) (hfit : fits (.array .int) v = true) (hw : w.set q0 (x, .inr (5, fs.set 20 v)) = w') (hdg : decode cc pc = .ok (.putfield 63, 3)) (kk : ∀ (H1 : Heap) (locs1 : List Loc), wB g classes A H0 w' H1 locs1 → W p l e R s m args below meth c H1 locs1 cells slots Q (F0 m (pc + 3) ls rest)) : W p l e R s m args below meth c H locs cells slots Q (F0 m pc ls (v :: .ref x :: rest)) := by
  subst hw
  exact va_putF C0.1 C0.2.1 C0.2.2.2.2.1 iw_MO t_MO t_MO_ok n_MO C0.2.2.2.1 C0.2.2.2.2.2.1 hB.1 hB.2.1 hB.2.2.1 q0 he rfl 20 (by decide) (C0.2.2.2.2.1 _ k_MO_63) (fun _ h => h) rfl hin rfl (by decide +kernel) hn hfit hl hdg (fun H1 locs1 hP hD hS => kk H1 locs1 ⟨hP, hD, hS, hB.2.2.2⟩)
theorem k_MO_78 : Cond.constantLong R_MO 78 (1000000000) ∈ gT := gT_in (List.mem_of_getElem? (i := 479) (by decide +kernel)) (by decide +kernel)
theorem k_MO_91 : Cond.constantLong R_MO 91 (1152921504606846976) ∈ gT := gT_in (List.mem_of_getElem? (i := 524) (by decide +kernel)) (by decide +kernel)
theorem k_MO_100 : Cond.constantLong R_MO 100 (64) ∈ gT := gT_in (List.mem_of_getElem? (i := 533) (by decide +kernel)) (by decide +kernel)
theorem k_MO_131 : Cond.constantLong R_MO 131 (-2) ∈ gT := gT_in (List.mem_of_getElem? (i := 558) (by decide +kernel)) (by decide +kernel)
theorem k_LW_27 : Cond.constantLong R_LW 27 (4294967295) ∈ gT := gT_in (List.mem_of_getElem? (i := 579) (by decide +kernel)) (by decide +kernel)
theorem k_WS_1 : Cond.methodLink R_WS 1 objectInit ∈ gT := gT_in (List.mem_of_getElem? (i := 34) (by decide +kernel)) (by decide +kernel)
theorem k_TH_3 : Cond.methodLink R_TH 3 objectInit ∈ gT := gT_in (List.mem_of_getElem? (i := 42) (by decide +kernel)) (by decide +kernel)
theorem k_PI_3 : Cond.methodLink R_PI 3 objectInit ∈ gT := gT_in (List.mem_of_getElem? (i := 77) (by decide +kernel)) (by decide +kernel)
theorem k_SE_5 : Cond.methodLink R_SE 5 objectInit ∈ gT := gT_in (List.mem_of_getElem? (i := 107) (by decide +kernel)) (by decide +kernel)
theorem k_FW_3 : Cond.methodLink R_FW 3 objectInit ∈ gT := gT_in (List.mem_of_getElem? (i := 287) (by decide +kernel)) (by decide +kernel)
theorem k_MO_1 : Cond.methodLink R_MO 1 objectInit ∈ gT := gT_in (List.mem_of_getElem? (i := 390) (by decide +kernel)) (by decide +kernel)
theorem k_oi : Cond.instanceMethod objectInit ∈ gT := gT_in (List.mem_of_getElem? (i := 35) (by decide +kernel)) (by decide +kernel)
theorem k_oc : Cond.code objectInit ⟨#[0xb1]⟩ 1 none ∈ gT := gT_in (List.mem_of_getElem? (i := 36) (by decide +kernel)) (by decide +kernel)
theorem oi {own : String} {idx : Nat} {b : Nat} (C0 : cX p m c cc nL s args own g classes tys) (hk : Cond.methodLink own idx objectInit ∈ gT) (hl : ls.size = nL) (hf : 1 ≤ R.frames) (hlo : 12 ≤ R.locals) (hdg : decode cc pc = .ok (.invokespecial idx, 3)) (kk : W p l e R s m args below meth c H locs cells slots Q (F0 m (pc + 3) ls [])) : W p l e R s m args below meth c H locs cells slots Q (F0 m pc ls [.ref b]) := by
  obtain ⟨hx, hb, hml, hown, hts, hK⟩ := C0
  refine W.objInit hx hb hown (hts _ hk) (hts _ k_oi) (hts _ k_oc) rfl (by rw [hml]; exact hl) rfl hdg hf hlo ?_
  exact W.eq rfl kk
end LINKS
end
section
section CALLS
variable {p : Program} {l : Launch} {e : Env} {R : Room} {s : State} {m : MethodId} {args : Array Value} {below : List Frame} {meth : Method} {c : Code} {H : Heap} {locs : List Loc} {cells slots : Nat} {Q : State → Prop}
variable {cc : ByteArray} {nL pc : Nat} {ls : Array Slot} {rest : List Value} {g : va_G} {tys : List (ClassId × FieldType)} {A : Nat → Prop} {H0 : Heap} {w w' : va_W} {x : Nat} {fs : List Value} {v : Value} {rm : Room} {mc ms : Nat}
theorem k_LW_9 : Cond.methodLink R_LW 9 y_WS_init ∈ gT := gT_in (List.mem_of_getElem? (i := 31) (by decide +kernel)) (by decide +kernel)
theorem q_LW_9 (hts : ∀ w ∈ gT, w.before args s = true) (hrc : rm.cells = mc) (hrs : rm.slots = ms) (hR : rm.frames + 1 ≤ R.frames ∧ 8 + (1 + 11) + rm.locals ≤ R.locals) : CallB R s args R_LW 9 y_WS_init b_WS_init 1 none w_WS_init rm mc ms 0 ∧ y_WS_init.name = "<init>" ∧ (Cond.instanceMethod y_WS_init).before args s = true :=
  cwI 0 hts (gW_good m_WS_init) rfl hrc hrs (hts _ k_ini_WS) (hts _ k_LW_9) (hts _ (gT_in (List.mem_of_getElem? (i := 32) (by decide +kernel)) (by decide +kernel))) rfl (by decide +kernel) hR
-- WS 1 java/lang/Object.<init>()V
-- TH 3 java/lang/Object.<init>()V
-- PI 3 java/lang/Object.<init>()V
theorem k_WS_25 : Cond.methodLink R_WS 25 y_SE_init ∈ gT := gT_in (List.mem_of_getElem? (i := 104) (by decide +kernel)) (by decide +kernel)
theorem q_WS_25 (hts : ∀ w ∈ gT, w.before args s = true) (hrc : rm.cells = mc) (hrs : rm.slots = ms) (hR : rm.frames + 1 ≤ R.frames ∧ 8 + (3 + 11) + rm.locals ≤ R.locals) : CallB R s args R_WS 25 y_SE_init b_SE_init 3 none w_SE_init rm mc ms 2 ∧ y_SE_init.name = "<init>" ∧ (Cond.instanceMethod y_SE_init).before args s = true :=
  cwI 2 hts (gW_good m_SE_init) rfl hrc hrs (hts _ k_ini_SE) (hts _ k_WS_25) (hts _ (gT_in (List.mem_of_getElem? (i := 105) (by decide +kernel)) (by decide +kernel))) rfl (by decide +kernel) hR
-- SE 5 java/lang/Object.<init>()V
theorem k_LW_13 : Cond.methodLink R_LW 13 y_WS_tank ∈ gT := gT_in (List.mem_of_getElem? (i := 163) (by decide +kernel)) (by decide +kernel)
theorem q_LW_13 (hts : ∀ w ∈ gT, w.before args s = true) (hrc : rm.cells = mc) (hrs : rm.slots = ms) (hR : rm.frames + 1 ≤ R.frames ∧ 8 + (2 + 11) + rm.locals ≤ R.locals) : CallW R s args R_LW R_WS 13 y_WS_tank b_WS_tank 2 (some .int) w_WS_tank rm mc ms 1 :=
  cwV 1 hts (gW_V m_WS_tank k_LW_13 (gT_in (List.mem_of_getElem? (i := 164) (by decide +kernel)) (by decide +kernel)) (gT_in (List.mem_of_getElem? (i := 165) (by decide +kernel)) (by decide +kernel)) k_ini_WS) rfl hrc hrs (by decide +kernel) hR
theorem k_WS_42 : Cond.methodLink R_WS 42 y_TH_add ∈ gT := gT_in (List.mem_of_getElem? (i := 167) (by decide +kernel)) (by decide +kernel)
theorem q_WS_42 (hts : ∀ w ∈ gT, w.before args s = true) (hrc : rm.cells = mc) (hrs : rm.slots = ms) (hR : rm.frames + 1 ≤ R.frames ∧ 8 + (3 + 11) + rm.locals ≤ R.locals) : CallW R s args R_WS R_TH 42 y_TH_add b_TH_add 3 (some .int) w_TH_add rm mc ms 2 :=
  cwV 2 hts (gW_V m_TH_add k_WS_42 (gT_in (List.mem_of_getElem? (i := 168) (by decide +kernel)) (by decide +kernel)) (gT_in (List.mem_of_getElem? (i := 169) (by decide +kernel)) (by decide +kernel)) k_ini_TH) rfl hrc hrs (by decide +kernel) hR
theorem k_LW_18 : Cond.methodLink R_LW 18 y_WS_pump ∈ gT := gT_in (List.mem_of_getElem? (i := 171) (by decide +kernel)) (by decide +kernel)
theorem q_LW_18 (hts : ∀ w ∈ gT, w.before args s = true) (hrc : rm.cells = mc) (hrs : rm.slots = ms) (hR : rm.frames + 1 ≤ R.frames ∧ 8 + (1 + 11) + rm.locals ≤ R.locals) : CallW R s args R_LW R_WS 18 y_WS_pump b_WS_pump 1 (some .int) w_WS_pump rm mc ms 0 :=
  cwV 0 hts (gW_V m_WS_pump k_LW_18 (gT_in (List.mem_of_getElem? (i := 172) (by decide +kernel)) (by decide +kernel)) (gT_in (List.mem_of_getElem? (i := 173) (by decide +kernel)) (by decide +kernel)) k_ini_WS) rfl hrc hrs (by decide +kernel) hR
theorem k_LW_23 : Cond.methodLink R_LW 23 y_WS_valve ∈ gT := gT_in (List.mem_of_getElem? (i := 175) (by decide +kernel)) (by decide +kernel)
theorem q_LW_23 (hts : ∀ w ∈ gT, w.before args s = true) (hrc : rm.cells = mc) (hrs : rm.slots = ms) (hR : rm.frames + 1 ≤ R.frames ∧ 8 + (1 + 11) + rm.locals ≤ R.locals) : CallW R s args R_LW R_WS 23 y_WS_valve b_WS_valve 1 (some .int) w_WS_valve rm mc ms 0 :=
  cwV 0 hts (gW_V m_WS_valve k_LW_23 (gT_in (List.mem_of_getElem? (i := 176) (by decide +kernel)) (by decide +kernel)) (gT_in (List.mem_of_getElem? (i := 177) (by decide +kernel)) (by decide +kernel)) k_ini_WS) rfl hrc hrs (by decide +kernel) hR
theorem k_LW_29 : Cond.methodLink R_LW 29 y_WS_pipe ∈ gT := gT_in (List.mem_of_getElem? (i := 179) (by decide +kernel)) (by decide +kernel)
theorem q_LW_29 (hts : ∀ w ∈ gT, w.before args s = true) (hrc : rm.cells = mc) (hrs : rm.slots = ms) (hR : rm.frames + 1 ≤ R.frames ∧ 8 + (5 + 11) + rm.locals ≤ R.locals) : CallW R s args R_LW R_WS 29 y_WS_pipe b_WS_pipe 5 (some .int) w_WS_pipe rm mc ms 3 :=
  cwV 3 hts (gW_V m_WS_pipe k_LW_29 (gT_in (List.mem_of_getElem? (i := 180) (by decide +kernel)) (by decide +kernel)) (gT_in (List.mem_of_getElem? (i := 181) (by decide +kernel)) (by decide +kernel)) k_ini_WS) rfl hrc hrs (by decide +kernel) hR
theorem k_WS_46 : Cond.methodLink R_WS 46 y_TH_has ∈ gT := gT_in (List.mem_of_getElem? (i := 183) (by decide +kernel)) (by decide +kernel)
theorem q_WS_46 (hts : ∀ w ∈ gT, w.before args s = true) (hrc : rm.cells = mc) (hrs : rm.slots = ms) (hR : rm.frames + 1 ≤ R.frames ∧ 8 + (2 + 11) + rm.locals ≤ R.locals) : CallW R s args R_WS R_TH 46 y_TH_has b_TH_has 2 (some .boolean) w_TH_has rm mc ms 1 :=
  cwV 1 hts (gW_V m_TH_has k_WS_46 (gT_in (List.mem_of_getElem? (i := 184) (by decide +kernel)) (by decide +kernel)) (gT_in (List.mem_of_getElem? (i := 185) (by decide +kernel)) (by decide +kernel)) k_ini_TH) rfl hrc hrs (by decide +kernel) hR
theorem k_WS_52 : Cond.methodLink R_WS 52 y_PI_add ∈ gT := gT_in (List.mem_of_getElem? (i := 188) (by decide +kernel)) (by decide +kernel)
theorem q_WS_52 (hts : ∀ w ∈ gT, w.before args s = true) (hrc : rm.cells = mc) (hrs : rm.slots = ms) (hR : rm.frames + 1 ≤ R.frames ∧ 8 + (5 + 11) + rm.locals ≤ R.locals) : CallW R s args R_WS R_PI 52 y_PI_add b_PI_add 5 (some .int) w_PI_add rm mc ms 3 :=
  cwV 3 hts (gW_V m_PI_add k_WS_52 (gT_in (List.mem_of_getElem? (i := 189) (by decide +kernel)) (by decide +kernel)) (gT_in (List.mem_of_getElem? (i := 190) (by decide +kernel)) (by decide +kernel)) k_ini_PI) rfl hrc hrs (by decide +kernel) hR
theorem k_LW_34 : Cond.methodLink R_LW 34 y_WS_run ∈ gT := gT_in (List.mem_of_getElem? (i := 192) (by decide +kernel)) (by decide +kernel)
theorem q_LW_34 (hts : ∀ w ∈ gT, w.before args s = true) (hrc : rm.cells = mc) (hrs : rm.slots = ms) (hR : rm.frames + 1 ≤ R.frames ∧ 8 + (3 + 11) + rm.locals ≤ R.locals) : CallW R s args R_LW R_WS 34 y_WS_run b_WS_run 3 (some .boolean) w_WS_run rm mc ms 2 :=
  cwV 2 hts (gW_V m_WS_run k_LW_34 (gT_in (List.mem_of_getElem? (i := 193) (by decide +kernel)) (by decide +kernel)) (gT_in (List.mem_of_getElem? (i := 194) (by decide +kernel)) (by decide +kernel)) k_ini_WS) rfl hrc hrs (by decide +kernel) hR
theorem k_WS_55 : Cond.methodLink R_WS 55 y_PI_has ∈ gT := gT_in (List.mem_of_getElem? (i := 196) (by decide +kernel)) (by decide +kernel)
theorem q_WS_55 (hts : ∀ w ∈ gT, w.before args s = true) (hrc : rm.cells = mc) (hrs : rm.slots = ms) (hR : rm.frames + 1 ≤ R.frames ∧ 8 + (2 + 11) + rm.locals ≤ R.locals) : CallW R s args R_WS R_PI 55 y_PI_has b_PI_has 2 (some .boolean) w_PI_has rm mc ms 1 :=
  cwV 1 hts (gW_V m_PI_has k_WS_55 (gT_in (List.mem_of_getElem? (i := 197) (by decide +kernel)) (by decide +kernel)) (gT_in (List.mem_of_getElem? (i := 198) (by decide +kernel)) (by decide +kernel)) k_ini_PI) rfl hrc hrs (by decide +kernel) hR
theorem k_WS_60 : Cond.methodLink R_WS 60 y_WS_changeMark ∈ gT := gT_in (List.mem_of_getElem? (i := 200) (by decide +kernel)) (by decide +kernel)
theorem q_WS_60 (hts : ∀ w ∈ gT, w.before args s = true) (hrc : rm.cells = mc) (hrs : rm.slots = ms) (hR : rm.frames + 1 ≤ R.frames ∧ 8 + (4 + 11) + rm.locals ≤ R.locals) : CallB R s args R_WS 60 y_WS_changeMark b_WS_changeMark 4 (some .boolean) w_WS_changeMark rm mc ms 3 ∧ (Cond.static y_WS_changeMark).before args s = true :=
  va_cwS 3 hts (gW_S m_WS_changeMark k_WS_60 (gT_in (List.mem_of_getElem? (i := 201) (by decide +kernel)) (by decide +kernel)) k_ini_WS) rfl hrc hrs (by decide +kernel) hR
theorem k_LW_39 : Cond.methodLink R_LW 39 y_WS_bar ∈ gT := gT_in (List.mem_of_getElem? (i := 203) (by decide +kernel)) (by decide +kernel)
theorem q_LW_39 (hts : ∀ w ∈ gT, w.before args s = true) (hrc : rm.cells = mc) (hrs : rm.slots = ms) (hR : rm.frames + 1 ≤ R.frames ∧ 8 + (3 + 11) + rm.locals ≤ R.locals) : CallW R s args R_LW R_WS 39 y_WS_bar b_WS_bar 3 (some .boolean) w_WS_bar rm mc ms 2 :=
  cwV 2 hts (gW_V m_WS_bar k_LW_39 (gT_in (List.mem_of_getElem? (i := 204) (by decide +kernel)) (by decide +kernel)) (gT_in (List.mem_of_getElem? (i := 205) (by decide +kernel)) (by decide +kernel)) k_ini_WS) rfl hrc hrs (by decide +kernel) hR
theorem k_LW_43 : Cond.methodLink R_LW 43 y_WS_way ∈ gT := gT_in (List.mem_of_getElem? (i := 207) (by decide +kernel)) (by decide +kernel)
theorem q_LW_43 (hts : ∀ w ∈ gT, w.before args s = true) (hrc : rm.cells = mc) (hrs : rm.slots = ms) (hR : rm.frames + 1 ≤ R.frames ∧ 8 + (4 + 11) + rm.locals ≤ R.locals) : CallW R s args R_LW R_WS 43 y_WS_way b_WS_way 4 (some .int) w_WS_way rm mc ms 2 :=
  cwV 2 hts (gW_V m_WS_way k_LW_43 (gT_in (List.mem_of_getElem? (i := 208) (by decide +kernel)) (by decide +kernel)) (gT_in (List.mem_of_getElem? (i := 209) (by decide +kernel)) (by decide +kernel)) k_ini_WS) rfl hrc hrs (by decide +kernel) hR
theorem k_WS_67 : Cond.methodLink R_WS 67 y_WS_refusalOfEnds ∈ gT := gT_in (List.mem_of_getElem? (i := 211) (by decide +kernel)) (by decide +kernel)
theorem q_WS_67 (hts : ∀ w ∈ gT, w.before args s = true) (hrc : rm.cells = mc) (hrs : rm.slots = ms) (hR : rm.frames + 1 ≤ R.frames ∧ 8 + (3 + 11) + rm.locals ≤ R.locals) : CallW R s args R_WS R_WS 67 y_WS_refusalOfEnds b_WS_refusalOfEnds 3 (some .int) w_WS_refusalOfEnds rm mc ms 2 :=
  cwV 2 hts (gW_V m_WS_refusalOfEnds k_WS_67 (gT_in (List.mem_of_getElem? (i := 213) (by decide +kernel)) (by decide +kernel)) (gT_in (List.mem_of_getElem? (i := 0) (by decide +kernel)) (by decide +kernel)) k_ini_WS) rfl hrc hrs (by decide +kernel) hR
theorem k_WS_93 : Cond.methodLink R_WS 93 y_TH_isKind ∈ gT := gT_in (List.mem_of_getElem? (i := 215) (by decide +kernel)) (by decide +kernel)
theorem q_WS_93 (hts : ∀ w ∈ gT, w.before args s = true) (hrc : rm.cells = mc) (hrs : rm.slots = ms) (hR : rm.frames + 1 ≤ R.frames ∧ 8 + (3 + 11) + rm.locals ≤ R.locals) : CallW R s args R_WS R_TH 93 y_TH_isKind b_TH_isKind 3 (some .boolean) w_TH_isKind rm mc ms 2 :=
  cwV 2 hts (gW_V m_TH_isKind k_WS_93 (gT_in (List.mem_of_getElem? (i := 216) (by decide +kernel)) (by decide +kernel)) (gT_in (List.mem_of_getElem? (i := 217) (by decide +kernel)) (by decide +kernel)) k_ini_TH) rfl hrc hrs (by decide +kernel) hR
theorem k_TH_32 : Cond.methodLink R_TH 32 y_TH_has ∈ gT := gT_in (List.mem_of_getElem? (i := 219) (by decide +kernel)) (by decide +kernel)
theorem q_TH_32 (hts : ∀ w ∈ gT, w.before args s = true) (hrc : rm.cells = mc) (hrs : rm.slots = ms) (hR : rm.frames + 1 ≤ R.frames ∧ 8 + (2 + 11) + rm.locals ≤ R.locals) : CallW R s args R_TH R_TH 32 y_TH_has b_TH_has 2 (some .boolean) w_TH_has rm mc ms 1 :=
  cwV 1 hts (gW_V m_TH_has k_TH_32 (gT_in (List.mem_of_getElem? (i := 184) (by decide +kernel)) (by decide +kernel)) (gT_in (List.mem_of_getElem? (i := 185) (by decide +kernel)) (by decide +kernel)) k_ini_TH) rfl hrc hrs (by decide +kernel) hR
theorem k_WS_71 : Cond.methodLink R_WS 71 y_SE_openAll ∈ gT := gT_in (List.mem_of_getElem? (i := 220) (by decide +kernel)) (by decide +kernel)
theorem q_WS_71 (hts : ∀ w ∈ gT, w.before args s = true) (hrc : rm.cells = mc) (hrs : rm.slots = ms) (hR : rm.frames + 1 ≤ R.frames ∧ 8 + (2 + 11) + rm.locals ≤ R.locals) : CallW R s args R_WS R_SE 71 y_SE_openAll b_SE_openAll 2 none w_SE_openAll rm mc ms 0 :=
  cwV 0 hts (gW_V m_SE_openAll k_WS_71 (gT_in (List.mem_of_getElem? (i := 221) (by decide +kernel)) (by decide +kernel)) (gT_in (List.mem_of_getElem? (i := 222) (by decide +kernel)) (by decide +kernel)) k_ini_SE) rfl hrc hrs (by decide +kernel) hR
theorem k_SE_72 : Cond.methodLink R_SE 72 y_SE_shutUnlessTank ∈ gT := gT_in (List.mem_of_getElem? (i := 224) (by decide +kernel)) (by decide +kernel)
theorem q_SE_72 (hts : ∀ w ∈ gT, w.before args s = true) (hrc : rm.cells = mc) (hrs : rm.slots = ms) (hR : rm.frames + 1 ≤ R.frames ∧ 8 + (2 + 11) + rm.locals ≤ R.locals) : CallW R s args R_SE R_SE 72 y_SE_shutUnlessTank b_SE_shutUnlessTank 2 none w_SE_shutUnlessTank rm mc ms 1 :=
  cwV 1 hts (gW_V m_SE_shutUnlessTank k_SE_72 (gT_in (List.mem_of_getElem? (i := 225) (by decide +kernel)) (by decide +kernel)) (gT_in (List.mem_of_getElem? (i := 226) (by decide +kernel)) (by decide +kernel)) k_ini_SE) rfl hrc hrs (by decide +kernel) hR
theorem k_SE_92 : Cond.methodLink R_SE 92 y_TH_has ∈ gT := gT_in (List.mem_of_getElem? (i := 228) (by decide +kernel)) (by decide +kernel)
theorem q_SE_92 (hts : ∀ w ∈ gT, w.before args s = true) (hrc : rm.cells = mc) (hrs : rm.slots = ms) (hR : rm.frames + 1 ≤ R.frames ∧ 8 + (2 + 11) + rm.locals ≤ R.locals) : CallW R s args R_SE R_TH 92 y_TH_has b_TH_has 2 (some .boolean) w_TH_has rm mc ms 1 :=
  cwV 1 hts (gW_V m_TH_has k_SE_92 (gT_in (List.mem_of_getElem? (i := 184) (by decide +kernel)) (by decide +kernel)) (gT_in (List.mem_of_getElem? (i := 185) (by decide +kernel)) (by decide +kernel)) k_ini_TH) rfl hrc hrs (by decide +kernel) hR
theorem k_WS_74 : Cond.methodLink R_WS 74 y_SE_leastWay ∈ gT := gT_in (List.mem_of_getElem? (i := 229) (by decide +kernel)) (by decide +kernel)
theorem q_WS_74 (hts : ∀ w ∈ gT, w.before args s = true) (hrc : rm.cells = mc) (hrs : rm.slots = ms) (hR : rm.frames + 1 ≤ R.frames ∧ 8 + (3 + 11) + rm.locals ≤ R.locals) : CallW R s args R_WS R_SE 74 y_SE_leastWay b_SE_leastWay 3 (some (.object "WaySearch$FoundWay")) w_SE_leastWay rm mc ms 2 :=
  cwV 2 hts (gW_V m_SE_leastWay k_WS_74 (gT_in (List.mem_of_getElem? (i := 230) (by decide +kernel)) (by decide +kernel)) (gT_in (List.mem_of_getElem? (i := 231) (by decide +kernel)) (by decide +kernel)) k_ini_SE) rfl hrc hrs (by decide +kernel) hR
theorem k_SE_96 : Cond.methodLink R_SE 96 y_SE_layArcs ∈ gT := gT_in (List.mem_of_getElem? (i := 233) (by decide +kernel)) (by decide +kernel)
theorem q_SE_96 (hts : ∀ w ∈ gT, w.before args s = true) (hrc : rm.cells = mc) (hrs : rm.slots = ms) (hR : rm.frames + 1 ≤ R.frames ∧ 8 + (3 + 11) + rm.locals ≤ R.locals) : CallW R s args R_SE R_SE 96 y_SE_layArcs b_SE_layArcs 3 none w_SE_layArcs rm mc ms 1 :=
  cwV 1 hts (gW_V m_SE_layArcs k_SE_96 (gT_in (List.mem_of_getElem? (i := 234) (by decide +kernel)) (by decide +kernel)) (gT_in (List.mem_of_getElem? (i := 235) (by decide +kernel)) (by decide +kernel)) k_ini_SE) rfl hrc hrs (by decide +kernel) hR
theorem k_SE_108 : Cond.methodLink R_SE 108 y_SE_layArc ∈ gT := gT_in (List.mem_of_getElem? (i := 237) (by decide +kernel)) (by decide +kernel)
theorem q_SE_108 (hts : ∀ w ∈ gT, w.before args s = true) (hrc : rm.cells = mc) (hrs : rm.slots = ms) (hR : rm.frames + 1 ≤ R.frames ∧ 8 + (9 + 11) + rm.locals ≤ R.locals) : CallW R s args R_SE R_SE 108 y_SE_layArc b_SE_layArc 9 none w_SE_layArc rm mc ms 4 :=
  cwV 4 hts (gW_V m_SE_layArc k_SE_108 (gT_in (List.mem_of_getElem? (i := 238) (by decide +kernel)) (by decide +kernel)) (gT_in (List.mem_of_getElem? (i := 239) (by decide +kernel)) (by decide +kernel)) k_ini_SE) rfl hrc hrs (by decide +kernel) hR
theorem k_SE_112 : Cond.methodLink R_SE 112 y_TH_letFlow ∈ gT := gT_in (List.mem_of_getElem? (i := 241) (by decide +kernel)) (by decide +kernel)
theorem q_SE_112 (hts : ∀ w ∈ gT, w.before args s = true) (hrc : rm.cells = mc) (hrs : rm.slots = ms) (hR : rm.frames + 1 ≤ R.frames ∧ 8 + (5 + 11) + rm.locals ≤ R.locals) : CallW R s args R_SE R_TH 112 y_TH_letFlow b_TH_letFlow 5 (some .boolean) w_TH_letFlow rm mc ms 2 :=
  cwV 2 hts (gW_V m_TH_letFlow k_SE_112 (gT_in (List.mem_of_getElem? (i := 242) (by decide +kernel)) (by decide +kernel)) (gT_in (List.mem_of_getElem? (i := 243) (by decide +kernel)) (by decide +kernel)) k_ini_TH) rfl hrc hrs (by decide +kernel) hR
theorem k_SE_99 : Cond.methodLink R_SE 99 y_SE_reckonCostsTo ∈ gT := gT_in (List.mem_of_getElem? (i := 246) (by decide +kernel)) (by decide +kernel)
theorem q_SE_99 (hts : ∀ w ∈ gT, w.before args s = true) (hrc : rm.cells = mc) (hrs : rm.slots = ms) (hR : rm.frames + 1 ≤ R.frames ∧ 8 + (4 + 11) + rm.locals ≤ R.locals) : CallW R s args R_SE R_SE 99 y_SE_reckonCostsTo b_SE_reckonCostsTo 4 none w_SE_reckonCostsTo rm mc ms 1 :=
  cwV 1 hts (gW_V m_SE_reckonCostsTo k_SE_99 (gT_in (List.mem_of_getElem? (i := 247) (by decide +kernel)) (by decide +kernel)) (gT_in (List.mem_of_getElem? (i := 248) (by decide +kernel)) (by decide +kernel)) k_ini_SE) rfl hrc hrs (by decide +kernel) hR
theorem k_SE_121 : Cond.methodLink R_SE 121 y_AR_fill ∈ gT := gT_in (List.mem_of_getElem? (i := 251) (by decide +kernel)) (by decide +kernel)
theorem q_SE_121 (hts : ∀ w ∈ gT, w.before args s = true) (hrc : rm.cells = mc) (hrs : rm.slots = ms) (hR : rm.frames + 1 ≤ R.frames ∧ 8 + (5 + 11) + rm.locals ≤ R.locals) : CallB R s args R_SE 121 y_AR_fill b_AR_fill 5 none w_AR_fill rm mc ms 2 ∧ (Cond.static y_AR_fill).before args s = true :=
  va_cwS 2 hts (gW_S m_AR_fill k_SE_121 (gT_in (List.mem_of_getElem? (i := 252) (by decide +kernel)) (by decide +kernel)) k_ini_AR) rfl hrc hrs (by decide +kernel) hR
theorem k_SE_127 : Cond.methodLink R_SE 127 y_SE_lowerCosts ∈ gT := gT_in (List.mem_of_getElem? (i := 254) (by decide +kernel)) (by decide +kernel)
theorem q_SE_127 (hts : ∀ w ∈ gT, w.before args s = true) (hrc : rm.cells = mc) (hrs : rm.slots = ms) (hR : rm.frames + 1 ≤ R.frames ∧ 8 + (5 + 11) + rm.locals ≤ R.locals) : CallW R s args R_SE R_SE 127 y_SE_lowerCosts b_SE_lowerCosts 5 (some .boolean) w_SE_lowerCosts rm mc ms 0 :=
  cwV 0 hts (gW_V m_SE_lowerCosts k_SE_127 (gT_in (List.mem_of_getElem? (i := 255) (by decide +kernel)) (by decide +kernel)) (gT_in (List.mem_of_getElem? (i := 256) (by decide +kernel)) (by decide +kernel)) k_ini_SE) rfl hrc hrs (by decide +kernel) hR
theorem k_SE_104 : Cond.methodLink R_SE 104 y_SE_followLeast ∈ gT := gT_in (List.mem_of_getElem? (i := 258) (by decide +kernel)) (by decide +kernel)
theorem q_SE_104 (hts : ∀ w ∈ gT, w.before args s = true) (hrc : rm.cells = mc) (hrs : rm.slots = ms) (hR : rm.frames + 1 ≤ R.frames ∧ 8 + (9 + 11) + rm.locals ≤ R.locals) : CallW R s args R_SE R_SE 104 y_SE_followLeast b_SE_followLeast 9 (some (.object "WaySearch$FoundWay")) w_SE_followLeast rm mc ms 2 :=
  cwV 2 hts (gW_V m_SE_followLeast k_SE_104 (gT_in (List.mem_of_getElem? (i := 259) (by decide +kernel)) (by decide +kernel)) (gT_in (List.mem_of_getElem? (i := 260) (by decide +kernel)) (by decide +kernel)) k_ini_SE) rfl hrc hrs (by decide +kernel) hR
theorem k_SE_131 : Cond.methodLink R_SE 131 y_SE_firstLeastArc ∈ gT := gT_in (List.mem_of_getElem? (i := 262) (by decide +kernel)) (by decide +kernel)
theorem q_SE_131 (hts : ∀ w ∈ gT, w.before args s = true) (hrc : rm.cells = mc) (hrs : rm.slots = ms) (hR : rm.frames + 1 ≤ R.frames ∧ 8 + (5 + 11) + rm.locals ≤ R.locals) : CallW R s args R_SE R_SE 131 y_SE_firstLeastArc b_SE_firstLeastArc 5 (some .int) w_SE_firstLeastArc rm mc ms 1 :=
  cwV 1 hts (gW_V m_SE_firstLeastArc k_SE_131 (gT_in (List.mem_of_getElem? (i := 263) (by decide +kernel)) (by decide +kernel)) (gT_in (List.mem_of_getElem? (i := 264) (by decide +kernel)) (by decide +kernel)) k_ini_SE) rfl hrc hrs (by decide +kernel) hR
theorem k_SE_135 : Cond.methodLink R_SE 135 y_AR_copyOf ∈ gT := gT_in (List.mem_of_getElem? (i := 266) (by decide +kernel)) (by decide +kernel)
theorem q_SE_135 (hts : ∀ w ∈ gT, w.before args s = true) (hrc : rm.cells = mc) (hrs : rm.slots = ms) (hR : rm.frames + 1 ≤ R.frames ∧ 8 + (3 + 11) + rm.locals ≤ R.locals) : CallB R s args R_SE 135 y_AR_copyOf b_AR_copyOf 3 (some (.array .int)) w_AR_copyOf rm mc ms 2 ∧ (Cond.static y_AR_copyOf).before args s = true :=
  va_cwS 2 hts (gW_S m_AR_copyOf k_SE_135 (gT_in (List.mem_of_getElem? (i := 267) (by decide +kernel)) (by decide +kernel)) k_ini_AR) rfl hrc hrs (by decide +kernel) hR
-- AR 316 [I.clone()Ljava/lang/Object;
theorem k_AR_304 : Cond.methodLink R_AR 304 y_MA_min ∈ gT := gT_in (List.mem_of_getElem? (i := 276) (by decide +kernel)) (by decide +kernel)
theorem q_AR_304 (hts : ∀ w ∈ gT, w.before args s = true) (hrc : rm.cells = mc) (hrs : rm.slots = ms) (hR : rm.frames + 1 ≤ R.frames ∧ 8 + (2 + 11) + rm.locals ≤ R.locals) : CallB R s args R_AR 304 y_MA_min b_MA_min 2 (some .int) w_MA_min rm mc ms 2 ∧ (Cond.static y_MA_min).before args s = true :=
  va_cwS 2 hts (gW_S m_MA_min k_AR_304 (gT_in (List.mem_of_getElem? (i := 277) (by decide +kernel)) (by decide +kernel)) k_ini_MA) rfl hrc hrs (by decide +kernel) hR
-- AR 150 java/lang/System.arraycopy(Ljava/lang/Object;ILjava/lang/Object;II)V
theorem k_SE_139 : Cond.methodLink R_SE 139 y_FW_init ∈ gT := gT_in (List.mem_of_getElem? (i := 284) (by decide +kernel)) (by decide +kernel)
theorem q_SE_139 (hts : ∀ w ∈ gT, w.before args s = true) (hrc : rm.cells = mc) (hrs : rm.slots = ms) (hR : rm.frames + 1 ≤ R.frames ∧ 8 + (7 + 11) + rm.locals ≤ R.locals) : CallB R s args R_SE 139 y_FW_init b_FW_init 7 none w_FW_init rm mc ms 5 ∧ y_FW_init.name = "<init>" ∧ (Cond.instanceMethod y_FW_init).before args s = true :=
  cwI 5 hts (gW_good m_FW_init) rfl hrc hrs (hts _ k_ini_FW) (hts _ k_SE_139) (hts _ (gT_in (List.mem_of_getElem? (i := 285) (by decide +kernel)) (by decide +kernel))) rfl (by decide +kernel) hR
-- FW 3 java/lang/Object.<init>()V
theorem k_WS_78 : Cond.methodLink R_WS 78 y_WS_keep ∈ gT := gT_in (List.mem_of_getElem? (i := 311) (by decide +kernel)) (by decide +kernel)
theorem q_WS_78 (hts : ∀ w ∈ gT, w.before args s = true) (hrc : rm.cells = mc) (hrs : rm.slots = ms) (hR : rm.frames + 1 ≤ R.frames ∧ 8 + (2 + 11) + rm.locals ≤ R.locals) : CallW R s args R_WS R_WS 78 y_WS_keep b_WS_keep 2 (some .int) w_WS_keep rm mc ms 1 :=
  cwV 1 hts (gW_V m_WS_keep k_WS_78 (gT_in (List.mem_of_getElem? (i := 313) (by decide +kernel)) (by decide +kernel)) (gT_in (List.mem_of_getElem? (i := 1) (by decide +kernel)) (by decide +kernel)) k_ini_WS) rfl hrc hrs (by decide +kernel) hR
theorem k_LW_48 : Cond.methodLink R_LW 48 y_WS_pipeOf ∈ gT := gT_in (List.mem_of_getElem? (i := 315) (by decide +kernel)) (by decide +kernel)
theorem q_LW_48 (hts : ∀ w ∈ gT, w.before args s = true) (hrc : rm.cells = mc) (hrs : rm.slots = ms) (hR : rm.frames + 1 ≤ R.frames ∧ 8 + (4 + 11) + rm.locals ≤ R.locals) : CallW R s args R_LW R_WS 48 y_WS_pipeOf b_WS_pipeOf 4 (some .int) w_WS_pipeOf rm mc ms 2 :=
  cwV 2 hts (gW_V m_WS_pipeOf k_LW_48 (gT_in (List.mem_of_getElem? (i := 316) (by decide +kernel)) (by decide +kernel)) (gT_in (List.mem_of_getElem? (i := 317) (by decide +kernel)) (by decide +kernel)) k_ini_WS) rfl hrc hrs (by decide +kernel) hR
theorem k_WS_82 : Cond.methodLink R_WS 82 y_WS_wayNumbered ∈ gT := gT_in (List.mem_of_getElem? (i := 319) (by decide +kernel)) (by decide +kernel)
theorem q_WS_82 (hts : ∀ w ∈ gT, w.before args s = true) (hrc : rm.cells = mc) (hrs : rm.slots = ms) (hR : rm.frames + 1 ≤ R.frames ∧ 8 + (2 + 11) + rm.locals ≤ R.locals) : CallW R s args R_WS R_WS 82 y_WS_wayNumbered b_WS_wayNumbered 2 (some (.object "WaySearch$FoundWay")) w_WS_wayNumbered rm mc ms 1 :=
  cwV 1 hts (gW_V m_WS_wayNumbered k_WS_82 (gT_in (List.mem_of_getElem? (i := 321) (by decide +kernel)) (by decide +kernel)) (gT_in (List.mem_of_getElem? (i := 2) (by decide +kernel)) (by decide +kernel)) k_ini_WS) rfl hrc hrs (by decide +kernel) hR
theorem k_WS_86 : Cond.methodLink R_WS 86 y_FW_pipeAt ∈ gT := gT_in (List.mem_of_getElem? (i := 323) (by decide +kernel)) (by decide +kernel)
theorem q_WS_86 (hts : ∀ w ∈ gT, w.before args s = true) (hrc : rm.cells = mc) (hrs : rm.slots = ms) (hR : rm.frames + 1 ≤ R.frames ∧ 8 + (2 + 11) + rm.locals ≤ R.locals) : CallW R s args R_WS R_FW 86 y_FW_pipeAt b_FW_pipeAt 2 (some .int) w_FW_pipeAt rm mc ms 1 :=
  cwV 1 hts (gW_V m_FW_pipeAt k_WS_86 (gT_in (List.mem_of_getElem? (i := 324) (by decide +kernel)) (by decide +kernel)) (gT_in (List.mem_of_getElem? (i := 325) (by decide +kernel)) (by decide +kernel)) k_ini_FW) rfl hrc hrs (by decide +kernel) hR
theorem k_LW_52 : Cond.methodLink R_LW 52 y_WS_valveOf ∈ gT := gT_in (List.mem_of_getElem? (i := 327) (by decide +kernel)) (by decide +kernel)
theorem q_LW_52 (hts : ∀ w ∈ gT, w.before args s = true) (hrc : rm.cells = mc) (hrs : rm.slots = ms) (hR : rm.frames + 1 ≤ R.frames ∧ 8 + (9 + 11) + rm.locals ≤ R.locals) : CallW R s args R_LW R_WS 52 y_WS_valveOf b_WS_valveOf 9 (some .int) w_WS_valveOf rm mc ms 2 :=
  cwV 2 hts (gW_V m_WS_valveOf k_LW_52 (gT_in (List.mem_of_getElem? (i := 328) (by decide +kernel)) (by decide +kernel)) (gT_in (List.mem_of_getElem? (i := 329) (by decide +kernel)) (by decide +kernel)) k_ini_WS) rfl hrc hrs (by decide +kernel) hR
theorem k_LW_56 : Cond.methodLink R_LW 56 y_WS_rest ∈ gT := gT_in (List.mem_of_getElem? (i := 331) (by decide +kernel)) (by decide +kernel)
theorem q_LW_56 (hts : ∀ w ∈ gT, w.before args s = true) (hrc : rm.cells = mc) (hrs : rm.slots = ms) (hR : rm.frames + 1 ≤ R.frames ∧ 8 + (3 + 11) + rm.locals ≤ R.locals) : CallW R s args R_LW R_WS 56 y_WS_rest b_WS_rest 3 (some .long) w_WS_rest rm mc ms 1 :=
  cwV 1 hts (gW_V m_WS_rest k_LW_56 (gT_in (List.mem_of_getElem? (i := 332) (by decide +kernel)) (by decide +kernel)) (gT_in (List.mem_of_getElem? (i := 333) (by decide +kernel)) (by decide +kernel)) k_ini_WS) rfl hrc hrs (by decide +kernel) hR
theorem k_LW_61 : Cond.methodLink R_LW 61 y_WS_other ∈ gT := gT_in (List.mem_of_getElem? (i := 336) (by decide +kernel)) (by decide +kernel)
theorem q_LW_61 (hts : ∀ w ∈ gT, w.before args s = true) (hrc : rm.cells = mc) (hrs : rm.slots = ms) (hR : rm.frames + 1 ≤ R.frames ∧ 8 + (5 + 11) + rm.locals ≤ R.locals) : CallW R s args R_LW R_WS 61 y_WS_other b_WS_other 5 (some .int) w_WS_other rm mc ms 2 :=
  cwV 2 hts (gW_V m_WS_other k_LW_61 (gT_in (List.mem_of_getElem? (i := 337) (by decide +kernel)) (by decide +kernel)) (gT_in (List.mem_of_getElem? (i := 338) (by decide +kernel)) (by decide +kernel)) k_ini_WS) rfl hrc hrs (by decide +kernel) hR
theorem k_WS_103 : Cond.methodLink R_WS 103 y_SE_shutPipe ∈ gT := gT_in (List.mem_of_getElem? (i := 340) (by decide +kernel)) (by decide +kernel)
theorem q_WS_103 (hts : ∀ w ∈ gT, w.before args s = true) (hrc : rm.cells = mc) (hrs : rm.slots = ms) (hR : rm.frames + 1 ≤ R.frames ∧ 8 + (2 + 11) + rm.locals ≤ R.locals) : CallW R s args R_WS R_SE 103 y_SE_shutPipe b_SE_shutPipe 2 none w_SE_shutPipe rm mc ms 1 :=
  cwV 1 hts (gW_V m_SE_shutPipe k_WS_103 (gT_in (List.mem_of_getElem? (i := 341) (by decide +kernel)) (by decide +kernel)) (gT_in (List.mem_of_getElem? (i := 342) (by decide +kernel)) (by decide +kernel)) k_ini_SE) rfl hrc hrs (by decide +kernel) hR
theorem k_SE_79 : Cond.methodLink R_SE 79 y_PI_has ∈ gT := gT_in (List.mem_of_getElem? (i := 344) (by decide +kernel)) (by decide +kernel)
theorem q_SE_79 (hts : ∀ w ∈ gT, w.before args s = true) (hrc : rm.cells = mc) (hrs : rm.slots = ms) (hR : rm.frames + 1 ≤ R.frames ∧ 8 + (2 + 11) + rm.locals ≤ R.locals) : CallW R s args R_SE R_PI 79 y_PI_has b_PI_has 2 (some .boolean) w_PI_has rm mc ms 1 :=
  cwV 1 hts (gW_V m_PI_has k_SE_79 (gT_in (List.mem_of_getElem? (i := 197) (by decide +kernel)) (by decide +kernel)) (gT_in (List.mem_of_getElem? (i := 198) (by decide +kernel)) (by decide +kernel)) k_ini_PI) rfl hrc hrs (by decide +kernel) hR
theorem k_LW_65 : Cond.methodLink R_LW 65 y_WS_two ∈ gT := gT_in (List.mem_of_getElem? (i := 345) (by decide +kernel)) (by decide +kernel)
theorem q_LW_65 (hts : ∀ w ∈ gT, w.before args s = true) (hrc : rm.cells = mc) (hrs : rm.slots = ms) (hR : rm.frames + 1 ≤ R.frames ∧ 8 + (8 + 11) + rm.locals ≤ R.locals) : CallW R s args R_LW R_WS 65 y_WS_two b_WS_two 8 (some .int) w_WS_two rm mc ms 4 :=
  cwV 4 hts (gW_V m_WS_two k_LW_65 (gT_in (List.mem_of_getElem? (i := 346) (by decide +kernel)) (by decide +kernel)) (gT_in (List.mem_of_getElem? (i := 347) (by decide +kernel)) (by decide +kernel)) k_ini_WS) rfl hrc hrs (by decide +kernel) hR
theorem k_WS_113 : Cond.methodLink R_WS 113 y_SE_shutWay ∈ gT := gT_in (List.mem_of_getElem? (i := 349) (by decide +kernel)) (by decide +kernel)
theorem q_WS_113 (hts : ∀ w ∈ gT, w.before args s = true) (hrc : rm.cells = mc) (hrs : rm.slots = ms) (hR : rm.frames + 1 ≤ R.frames ∧ 8 + (6 + 11) + rm.locals ≤ R.locals) : CallW R s args R_WS R_SE 113 y_SE_shutWay b_SE_shutWay 6 none w_SE_shutWay rm mc ms 1 :=
  cwV 1 hts (gW_V m_SE_shutWay k_WS_113 (gT_in (List.mem_of_getElem? (i := 350) (by decide +kernel)) (by decide +kernel)) (gT_in (List.mem_of_getElem? (i := 351) (by decide +kernel)) (by decide +kernel)) k_ini_SE) rfl hrc hrs (by decide +kernel) hR
theorem k_SE_87 : Cond.methodLink R_SE 87 y_SE_shutPipe ∈ gT := gT_in (List.mem_of_getElem? (i := 353) (by decide +kernel)) (by decide +kernel)
theorem q_SE_87 (hts : ∀ w ∈ gT, w.before args s = true) (hrc : rm.cells = mc) (hrs : rm.slots = ms) (hR : rm.frames + 1 ≤ R.frames ∧ 8 + (2 + 11) + rm.locals ≤ R.locals) : CallW R s args R_SE R_SE 87 y_SE_shutPipe b_SE_shutPipe 2 none w_SE_shutPipe rm mc ms 1 :=
  cwV 1 hts (gW_V m_SE_shutPipe k_SE_87 (gT_in (List.mem_of_getElem? (i := 341) (by decide +kernel)) (by decide +kernel)) (gT_in (List.mem_of_getElem? (i := 342) (by decide +kernel)) (by decide +kernel)) k_ini_SE) rfl hrc hrs (by decide +kernel) hR
theorem k_LW_70 : Cond.methodLink R_LW 70 y_WS_forward ∈ gT := gT_in (List.mem_of_getElem? (i := 354) (by decide +kernel)) (by decide +kernel)
theorem q_LW_70 (hts : ∀ w ∈ gT, w.before args s = true) (hrc : rm.cells = mc) (hrs : rm.slots = ms) (hR : rm.frames + 1 ≤ R.frames ∧ 8 + (4 + 11) + rm.locals ≤ R.locals) : CallW R s args R_LW R_WS 70 y_WS_forward b_WS_forward 4 (some .boolean) w_WS_forward rm mc ms 3 :=
  cwV 3 hts (gW_V m_WS_forward k_LW_70 (gT_in (List.mem_of_getElem? (i := 355) (by decide +kernel)) (by decide +kernel)) (gT_in (List.mem_of_getElem? (i := 356) (by decide +kernel)) (by decide +kernel)) k_ini_WS) rfl hrc hrs (by decide +kernel) hR
theorem k_WS_117 : Cond.methodLink R_WS 117 y_PI_anyJoins ∈ gT := gT_in (List.mem_of_getElem? (i := 358) (by decide +kernel)) (by decide +kernel)
theorem q_WS_117 (hts : ∀ w ∈ gT, w.before args s = true) (hrc : rm.cells = mc) (hrs : rm.slots = ms) (hR : rm.frames + 1 ≤ R.frames ∧ 8 + (6 + 11) + rm.locals ≤ R.locals) : CallW R s args R_WS R_PI 117 y_PI_anyJoins b_PI_anyJoins 6 (some .boolean) w_PI_anyJoins rm mc ms 2 :=
  cwV 2 hts (gW_V m_PI_anyJoins k_WS_117 (gT_in (List.mem_of_getElem? (i := 359) (by decide +kernel)) (by decide +kernel)) (gT_in (List.mem_of_getElem? (i := 360) (by decide +kernel)) (by decide +kernel)) k_ini_PI) rfl hrc hrs (by decide +kernel) hR
theorem k_LW_75 : Cond.methodLink R_LW 75 y_WS_told ∈ gT := gT_in (List.mem_of_getElem? (i := 362) (by decide +kernel)) (by decide +kernel)
theorem q_LW_75 (hts : ∀ w ∈ gT, w.before args s = true) (hrc : rm.cells = mc) (hrs : rm.slots = ms) (hR : rm.frames + 1 ≤ R.frames ∧ 8 + (2 + 11) + rm.locals ≤ R.locals) : CallW R s args R_LW R_WS 75 y_WS_told b_WS_told 2 (some .int) w_WS_told rm mc ms 1 :=
  cwV 1 hts (gW_V m_WS_told k_LW_75 (gT_in (List.mem_of_getElem? (i := 363) (by decide +kernel)) (by decide +kernel)) (gT_in (List.mem_of_getElem? (i := 364) (by decide +kernel)) (by decide +kernel)) k_ini_WS) rfl hrc hrs (by decide +kernel) hR
theorem k_WS_130 : Cond.methodLink R_WS 130 y_WS_countMarks ∈ gT := gT_in (List.mem_of_getElem? (i := 366) (by decide +kernel)) (by decide +kernel)
theorem q_WS_130 (hts : ∀ w ∈ gT, w.before args s = true) (hrc : rm.cells = mc) (hrs : rm.slots = ms) (hR : rm.frames + 1 ≤ R.frames ∧ 8 + (6 + 11) + rm.locals ≤ R.locals) : CallB R s args R_WS 130 y_WS_countMarks b_WS_countMarks 6 (some .int) w_WS_countMarks rm mc ms 1 ∧ (Cond.static y_WS_countMarks).before args s = true :=
  va_cwS 1 hts (gW_S m_WS_countMarks k_WS_130 (gT_in (List.mem_of_getElem? (i := 367) (by decide +kernel)) (by decide +kernel)) k_ini_WS) rfl hrc hrs (by decide +kernel) hR
theorem k_WS_137 : Cond.methodLink R_WS 137 y_WS_countLooseThings ∈ gT := gT_in (List.mem_of_getElem? (i := 369) (by decide +kernel)) (by decide +kernel)
theorem q_WS_137 (hts : ∀ w ∈ gT, w.before args s = true) (hrc : rm.cells = mc) (hrs : rm.slots = ms) (hR : rm.frames + 1 ≤ R.frames ∧ 8 + (3 + 11) + rm.locals ≤ R.locals) : CallW R s args R_WS R_WS 137 y_WS_countLooseThings b_WS_countLooseThings 3 (some .int) w_WS_countLooseThings rm mc ms 0 :=
  cwV 0 hts (gW_V m_WS_countLooseThings k_WS_137 (gT_in (List.mem_of_getElem? (i := 371) (by decide +kernel)) (by decide +kernel)) (gT_in (List.mem_of_getElem? (i := 3) (by decide +kernel)) (by decide +kernel)) k_ini_WS) rfl hrc hrs (by decide +kernel) hR
theorem k_WS_146 : Cond.methodLink R_WS 146 y_PI_anyEndsAt ∈ gT := gT_in (List.mem_of_getElem? (i := 373) (by decide +kernel)) (by decide +kernel)
theorem q_WS_146 (hts : ∀ w ∈ gT, w.before args s = true) (hrc : rm.cells = mc) (hrs : rm.slots = ms) (hR : rm.frames + 1 ≤ R.frames ∧ 8 + (3 + 11) + rm.locals ≤ R.locals) : CallW R s args R_WS R_PI 146 y_PI_anyEndsAt b_PI_anyEndsAt 3 (some .boolean) w_PI_anyEndsAt rm mc ms 1 :=
  cwV 1 hts (gW_V m_PI_anyEndsAt k_WS_146 (gT_in (List.mem_of_getElem? (i := 374) (by decide +kernel)) (by decide +kernel)) (gT_in (List.mem_of_getElem? (i := 375) (by decide +kernel)) (by decide +kernel)) k_ini_PI) rfl hrc hrs (by decide +kernel) hR
theorem k_LW_80 : Cond.methodLink R_LW 80 y_WS_blow ∈ gT := gT_in (List.mem_of_getElem? (i := 377) (by decide +kernel)) (by decide +kernel)
theorem q_LW_80 (hts : ∀ w ∈ gT, w.before args s = true) (hrc : rm.cells = mc) (hrs : rm.slots = ms) (hR : rm.frames + 1 ≤ R.frames ∧ 8 + (6 + 11) + rm.locals ≤ R.locals) : CallW R s args R_LW R_WS 80 y_WS_blow b_WS_blow 6 (some .int) w_WS_blow rm mc ms 2 :=
  cwV 2 hts (gW_V m_WS_blow k_LW_80 (gT_in (List.mem_of_getElem? (i := 378) (by decide +kernel)) (by decide +kernel)) (gT_in (List.mem_of_getElem? (i := 379) (by decide +kernel)) (by decide +kernel)) k_ini_WS) rfl hrc hrs (by decide +kernel) hR
theorem k_WS_143 : Cond.methodLink R_WS 143 y_FW_thingAt ∈ gT := gT_in (List.mem_of_getElem? (i := 381) (by decide +kernel)) (by decide +kernel)
theorem q_WS_143 (hts : ∀ w ∈ gT, w.before args s = true) (hrc : rm.cells = mc) (hrs : rm.slots = ms) (hR : rm.frames + 1 ≤ R.frames ∧ 8 + (2 + 11) + rm.locals ≤ R.locals) : CallW R s args R_WS R_FW 143 y_FW_thingAt b_FW_thingAt 2 (some .int) w_FW_thingAt rm mc ms 1 :=
  cwV 1 hts (gW_V m_FW_thingAt k_WS_143 (gT_in (List.mem_of_getElem? (i := 382) (by decide +kernel)) (by decide +kernel)) (gT_in (List.mem_of_getElem? (i := 383) (by decide +kernel)) (by decide +kernel)) k_ini_FW) rfl hrc hrs (by decide +kernel) hR
theorem k_LW_12 : Cond.methodLink R_LW 12 y_MO_init ∈ gT := gT_in (List.mem_of_getElem? (i := 387) (by decide +kernel)) (by decide +kernel)
theorem q_LW_12 (hts : ∀ w ∈ gT, w.before args s = true) (hrc : rm.cells = mc) (hrs : rm.slots = ms) (hR : rm.frames + 1 ≤ R.frames ∧ 8 + (1 + 11) + rm.locals ≤ R.locals) : CallB R s args R_LW 12 y_MO_init b_MO_init 1 none w_MO_init rm mc ms 0 ∧ y_MO_init.name = "<init>" ∧ (Cond.instanceMethod y_MO_init).before args s = true :=
  cwI 0 hts (gW_good m_MO_init) rfl hrc hrs (hts _ k_ini_MO) (hts _ k_LW_12) (hts _ (gT_in (List.mem_of_getElem? (i := 388) (by decide +kernel)) (by decide +kernel))) rfl (by decide +kernel) hR
-- MO 1 java/lang/Object.<init>()V
theorem k_LW_17 : Cond.methodLink R_LW 17 y_MO_tank ∈ gT := gT_in (List.mem_of_getElem? (i := 455) (by decide +kernel)) (by decide +kernel)
theorem q_LW_17 (hts : ∀ w ∈ gT, w.before args s = true) (hrc : rm.cells = mc) (hrs : rm.slots = ms) (hR : rm.frames + 1 ≤ R.frames ∧ 8 + (3 + 11) + rm.locals ≤ R.locals) : CallW R s args R_LW R_MO 17 y_MO_tank b_MO_tank 3 (some .int) w_MO_tank rm mc ms 1 :=
  cwV 1 hts (gW_V m_MO_tank k_LW_17 (gT_in (List.mem_of_getElem? (i := 456) (by decide +kernel)) (by decide +kernel)) (gT_in (List.mem_of_getElem? (i := 457) (by decide +kernel)) (by decide +kernel)) k_ini_MO) rfl hrc hrs (by decide +kernel) hR
theorem k_MO_70 : Cond.methodLink R_MO 70 y_MO_thing ∈ gT := gT_in (List.mem_of_getElem? (i := 459) (by decide +kernel)) (by decide +kernel)
theorem q_MO_70 (hts : ∀ w ∈ gT, w.before args s = true) (hrc : rm.cells = mc) (hrs : rm.slots = ms) (hR : rm.frames + 1 ≤ R.frames ∧ 8 + (2 + 11) + rm.locals ≤ R.locals) : CallW R s args R_MO R_MO 70 y_MO_thing b_MO_thing 2 (some .int) w_MO_thing rm mc ms 1 :=
  cwV 1 hts (gW_V m_MO_thing k_MO_70 (gT_in (List.mem_of_getElem? (i := 461) (by decide +kernel)) (by decide +kernel)) (gT_in (List.mem_of_getElem? (i := 4) (by decide +kernel)) (by decide +kernel)) k_ini_MO) rfl hrc hrs (by decide +kernel) hR
theorem k_LW_22 : Cond.methodLink R_LW 22 y_MO_pump ∈ gT := gT_in (List.mem_of_getElem? (i := 463) (by decide +kernel)) (by decide +kernel)
theorem q_LW_22 (hts : ∀ w ∈ gT, w.before args s = true) (hrc : rm.cells = mc) (hrs : rm.slots = ms) (hR : rm.frames + 1 ≤ R.frames ∧ 8 + (1 + 11) + rm.locals ≤ R.locals) : CallW R s args R_LW R_MO 22 y_MO_pump b_MO_pump 1 (some .int) w_MO_pump rm mc ms 0 :=
  cwV 0 hts (gW_V m_MO_pump k_LW_22 (gT_in (List.mem_of_getElem? (i := 464) (by decide +kernel)) (by decide +kernel)) (gT_in (List.mem_of_getElem? (i := 465) (by decide +kernel)) (by decide +kernel)) k_ini_MO) rfl hrc hrs (by decide +kernel) hR
theorem k_LW_26 : Cond.methodLink R_LW 26 y_MO_valve ∈ gT := gT_in (List.mem_of_getElem? (i := 467) (by decide +kernel)) (by decide +kernel)
theorem q_LW_26 (hts : ∀ w ∈ gT, w.before args s = true) (hrc : rm.cells = mc) (hrs : rm.slots = ms) (hR : rm.frames + 1 ≤ R.frames ∧ 8 + (1 + 11) + rm.locals ≤ R.locals) : CallW R s args R_LW R_MO 26 y_MO_valve b_MO_valve 1 (some .int) w_MO_valve rm mc ms 0 :=
  cwV 0 hts (gW_V m_MO_valve k_LW_26 (gT_in (List.mem_of_getElem? (i := 468) (by decide +kernel)) (by decide +kernel)) (gT_in (List.mem_of_getElem? (i := 469) (by decide +kernel)) (by decide +kernel)) k_ini_MO) rfl hrc hrs (by decide +kernel) hR
theorem k_LW_33 : Cond.methodLink R_LW 33 y_MO_pipe ∈ gT := gT_in (List.mem_of_getElem? (i := 471) (by decide +kernel)) (by decide +kernel)
theorem q_LW_33 (hts : ∀ w ∈ gT, w.before args s = true) (hrc : rm.cells = mc) (hrs : rm.slots = ms) (hR : rm.frames + 1 ≤ R.frames ∧ 8 + (5 + 11) + rm.locals ≤ R.locals) : CallW R s args R_LW R_MO 33 y_MO_pipe b_MO_pipe 5 (some .int) w_MO_pipe rm mc ms 3 :=
  cwV 3 hts (gW_V m_MO_pipe k_LW_33 (gT_in (List.mem_of_getElem? (i := 472) (by decide +kernel)) (by decide +kernel)) (gT_in (List.mem_of_getElem? (i := 473) (by decide +kernel)) (by decide +kernel)) k_ini_MO) rfl hrc hrs (by decide +kernel) hR
theorem k_MO_74 : Cond.methodLink R_MO 74 y_MO_isThing ∈ gT := gT_in (List.mem_of_getElem? (i := 475) (by decide +kernel)) (by decide +kernel)
theorem q_MO_74 (hts : ∀ w ∈ gT, w.before args s = true) (hrc : rm.cells = mc) (hrs : rm.slots = ms) (hR : rm.frames + 1 ≤ R.frames ∧ 8 + (2 + 11) + rm.locals ≤ R.locals) : CallW R s args R_MO R_MO 74 y_MO_isThing b_MO_isThing 2 (some .boolean) w_MO_isThing rm mc ms 1 :=
  cwV 1 hts (gW_V m_MO_isThing k_MO_74 (gT_in (List.mem_of_getElem? (i := 477) (by decide +kernel)) (by decide +kernel)) (gT_in (List.mem_of_getElem? (i := 5) (by decide +kernel)) (by decide +kernel)) k_ini_MO) rfl hrc hrs (by decide +kernel) hR
theorem k_LW_38 : Cond.methodLink R_LW 38 y_MO_run ∈ gT := gT_in (List.mem_of_getElem? (i := 480) (by decide +kernel)) (by decide +kernel)
theorem q_LW_38 (hts : ∀ w ∈ gT, w.before args s = true) (hrc : rm.cells = mc) (hrs : rm.slots = ms) (hR : rm.frames + 1 ≤ R.frames ∧ 8 + (3 + 11) + rm.locals ≤ R.locals) : CallW R s args R_LW R_MO 38 y_MO_run b_MO_run 3 (some .boolean) w_MO_run rm mc ms 2 :=
  cwV 2 hts (gW_V m_MO_run k_LW_38 (gT_in (List.mem_of_getElem? (i := 481) (by decide +kernel)) (by decide +kernel)) (gT_in (List.mem_of_getElem? (i := 482) (by decide +kernel)) (by decide +kernel)) k_ini_MO) rfl hrc hrs (by decide +kernel) hR
theorem k_LW_42 : Cond.methodLink R_LW 42 y_MO_bar ∈ gT := gT_in (List.mem_of_getElem? (i := 484) (by decide +kernel)) (by decide +kernel)
theorem q_LW_42 (hts : ∀ w ∈ gT, w.before args s = true) (hrc : rm.cells = mc) (hrs : rm.slots = ms) (hR : rm.frames + 1 ≤ R.frames ∧ 8 + (3 + 11) + rm.locals ≤ R.locals) : CallW R s args R_LW R_MO 42 y_MO_bar b_MO_bar 3 (some .boolean) w_MO_bar rm mc ms 2 :=
  cwV 2 hts (gW_V m_MO_bar k_LW_42 (gT_in (List.mem_of_getElem? (i := 485) (by decide +kernel)) (by decide +kernel)) (gT_in (List.mem_of_getElem? (i := 486) (by decide +kernel)) (by decide +kernel)) k_ini_MO) rfl hrc hrs (by decide +kernel) hR
theorem k_LW_74 : Cond.methodLink R_LW 74 y_MO_forward ∈ gT := gT_in (List.mem_of_getElem? (i := 488) (by decide +kernel)) (by decide +kernel)
theorem q_LW_74 (hts : ∀ w ∈ gT, w.before args s = true) (hrc : rm.cells = mc) (hrs : rm.slots = ms) (hR : rm.frames + 1 ≤ R.frames ∧ 8 + (4 + 11) + rm.locals ≤ R.locals) : CallW R s args R_LW R_MO 74 y_MO_forward b_MO_forward 4 (some .boolean) w_MO_forward rm mc ms 3 :=
  cwV 3 hts (gW_V m_MO_forward k_LW_74 (gT_in (List.mem_of_getElem? (i := 489) (by decide +kernel)) (by decide +kernel)) (gT_in (List.mem_of_getElem? (i := 490) (by decide +kernel)) (by decide +kernel)) k_ini_MO) rfl hrc hrs (by decide +kernel) hR
theorem k_MO_87 : Cond.methodLink R_MO 87 y_MO_areJoined ∈ gT := gT_in (List.mem_of_getElem? (i := 492) (by decide +kernel)) (by decide +kernel)
theorem q_MO_87 (hts : ∀ w ∈ gT, w.before args s = true) (hrc : rm.cells = mc) (hrs : rm.slots = ms) (hR : rm.frames + 1 ≤ R.frames ∧ 8 + (5 + 11) + rm.locals ≤ R.locals) : CallW R s args R_MO R_MO 87 y_MO_areJoined b_MO_areJoined 5 (some .boolean) w_MO_areJoined rm mc ms 2 :=
  cwV 2 hts (gW_V m_MO_areJoined k_MO_87 (gT_in (List.mem_of_getElem? (i := 494) (by decide +kernel)) (by decide +kernel)) (gT_in (List.mem_of_getElem? (i := 6) (by decide +kernel)) (by decide +kernel)) k_ini_MO) rfl hrc hrs (by decide +kernel) hR
theorem k_MO_83 : Cond.methodLink R_MO 83 y_MO_joins ∈ gT := gT_in (List.mem_of_getElem? (i := 496) (by decide +kernel)) (by decide +kernel)
theorem q_MO_83 (hts : ∀ w ∈ gT, w.before args s = true) (hrc : rm.cells = mc) (hrs : rm.slots = ms) (hR : rm.frames + 1 ≤ R.frames ∧ 8 + (4 + 11) + rm.locals ≤ R.locals) : CallW R s args R_MO R_MO 83 y_MO_joins b_MO_joins 4 (some .boolean) w_MO_joins rm mc ms 3 :=
  cwV 3 hts (gW_V m_MO_joins k_MO_83 (gT_in (List.mem_of_getElem? (i := 498) (by decide +kernel)) (by decide +kernel)) (gT_in (List.mem_of_getElem? (i := 7) (by decide +kernel)) (by decide +kernel)) k_ini_MO) rfl hrc hrs (by decide +kernel) hR
theorem k_LW_47 : Cond.methodLink R_LW 47 y_MO_way ∈ gT := gT_in (List.mem_of_getElem? (i := 500) (by decide +kernel)) (by decide +kernel)
theorem q_LW_47 (hts : ∀ w ∈ gT, w.before args s = true) (hrc : rm.cells = mc) (hrs : rm.slots = ms) (hR : rm.frames + 1 ≤ R.frames ∧ 8 + (4 + 11) + rm.locals ≤ R.locals) : CallW R s args R_LW R_MO 47 y_MO_way b_MO_way 4 (some .int) w_MO_way rm mc ms 2 :=
  cwV 2 hts (gW_V m_MO_way k_LW_47 (gT_in (List.mem_of_getElem? (i := 501) (by decide +kernel)) (by decide +kernel)) (gT_in (List.mem_of_getElem? (i := 502) (by decide +kernel)) (by decide +kernel)) k_ini_MO) rfl hrc hrs (by decide +kernel) hR
theorem k_MO_109 : Cond.methodLink R_MO 109 y_MO_wrong ∈ gT := gT_in (List.mem_of_getElem? (i := 504) (by decide +kernel)) (by decide +kernel)
theorem q_MO_109 (hts : ∀ w ∈ gT, w.before args s = true) (hrc : rm.cells = mc) (hrs : rm.slots = ms) (hR : rm.frames + 1 ≤ R.frames ∧ 8 + (3 + 11) + rm.locals ≤ R.locals) : CallW R s args R_MO R_MO 109 y_MO_wrong b_MO_wrong 3 (some .int) w_MO_wrong rm mc ms 2 :=
  cwV 2 hts (gW_V m_MO_wrong k_MO_109 (gT_in (List.mem_of_getElem? (i := 506) (by decide +kernel)) (by decide +kernel)) (gT_in (List.mem_of_getElem? (i := 8) (by decide +kernel)) (by decide +kernel)) k_ini_MO) rfl hrc hrs (by decide +kernel) hR
theorem k_MO_106 : Cond.methodLink R_MO 106 y_MO_isTank ∈ gT := gT_in (List.mem_of_getElem? (i := 508) (by decide +kernel)) (by decide +kernel)
theorem q_MO_106 (hts : ∀ w ∈ gT, w.before args s = true) (hrc : rm.cells = mc) (hrs : rm.slots = ms) (hR : rm.frames + 1 ≤ R.frames ∧ 8 + (2 + 11) + rm.locals ≤ R.locals) : CallW R s args R_MO R_MO 106 y_MO_isTank b_MO_isTank 2 (some .boolean) w_MO_isTank rm mc ms 1 :=
  cwV 1 hts (gW_V m_MO_isTank k_MO_106 (gT_in (List.mem_of_getElem? (i := 510) (by decide +kernel)) (by decide +kernel)) (gT_in (List.mem_of_getElem? (i := 9) (by decide +kernel)) (by decide +kernel)) k_ini_MO) rfl hrc hrs (by decide +kernel) hR
theorem k_MO_113 : Cond.methodLink R_MO 113 y_MO_shut ∈ gT := gT_in (List.mem_of_getElem? (i := 512) (by decide +kernel)) (by decide +kernel)
theorem q_MO_113 (hts : ∀ w ∈ gT, w.before args s = true) (hrc : rm.cells = mc) (hrs : rm.slots = ms) (hR : rm.frames + 1 ≤ R.frames ∧ 8 + (2 + 11) + rm.locals ≤ R.locals) : CallW R s args R_MO R_MO 113 y_MO_shut b_MO_shut 2 none w_MO_shut rm mc ms 0 :=
  cwV 0 hts (gW_V m_MO_shut k_MO_113 (gT_in (List.mem_of_getElem? (i := 514) (by decide +kernel)) (by decide +kernel)) (gT_in (List.mem_of_getElem? (i := 10) (by decide +kernel)) (by decide +kernel)) k_ini_MO) rfl hrc hrs (by decide +kernel) hR
theorem k_MO_119 : Cond.methodLink R_MO 119 y_MO_exists ∈ gT := gT_in (List.mem_of_getElem? (i := 516) (by decide +kernel)) (by decide +kernel)
theorem q_MO_119 (hts : ∀ w ∈ gT, w.before args s = true) (hrc : rm.cells = mc) (hrs : rm.slots = ms) (hR : rm.frames + 1 ≤ R.frames ∧ 8 + (3 + 11) + rm.locals ≤ R.locals) : CallW R s args R_MO R_MO 119 y_MO_exists b_MO_exists 3 (some .boolean) w_MO_exists rm mc ms 2 :=
  cwV 2 hts (gW_V m_MO_exists k_MO_119 (gT_in (List.mem_of_getElem? (i := 518) (by decide +kernel)) (by decide +kernel)) (gT_in (List.mem_of_getElem? (i := 11) (by decide +kernel)) (by decide +kernel)) k_ini_MO) rfl hrc hrs (by decide +kernel) hR
theorem k_MO_102 : Cond.methodLink R_MO 102 y_MO_reckon ∈ gT := gT_in (List.mem_of_getElem? (i := 520) (by decide +kernel)) (by decide +kernel)
theorem q_MO_102 (hts : ∀ w ∈ gT, w.before args s = true) (hrc : rm.cells = mc) (hrs : rm.slots = ms) (hR : rm.frames + 1 ≤ R.frames ∧ 8 + (5 + 11) + rm.locals ≤ R.locals) : CallW R s args R_MO R_MO 102 y_MO_reckon b_MO_reckon 5 none w_MO_reckon rm mc ms 2 :=
  cwV 2 hts (gW_V m_MO_reckon k_MO_102 (gT_in (List.mem_of_getElem? (i := 522) (by decide +kernel)) (by decide +kernel)) (gT_in (List.mem_of_getElem? (i := 12) (by decide +kernel)) (by decide +kernel)) k_ini_MO) rfl hrc hrs (by decide +kernel) hR
theorem k_MO_93 : Cond.methodLink R_MO 93 y_MO_improve ∈ gT := gT_in (List.mem_of_getElem? (i := 525) (by decide +kernel)) (by decide +kernel)
theorem q_MO_93 (hts : ∀ w ∈ gT, w.before args s = true) (hrc : rm.cells = mc) (hrs : rm.slots = ms) (hR : rm.frames + 1 ≤ R.frames ∧ 8 + (9 + 11) + rm.locals ≤ R.locals) : CallW R s args R_MO R_MO 93 y_MO_improve b_MO_improve 9 (some .boolean) w_MO_improve rm mc ms 5 :=
  cwV 5 hts (gW_V m_MO_improve k_MO_93 (gT_in (List.mem_of_getElem? (i := 527) (by decide +kernel)) (by decide +kernel)) (gT_in (List.mem_of_getElem? (i := 13) (by decide +kernel)) (by decide +kernel)) k_ini_MO) rfl hrc hrs (by decide +kernel) hR
theorem k_MO_97 : Cond.methodLink R_MO 97 y_MO_goes ∈ gT := gT_in (List.mem_of_getElem? (i := 529) (by decide +kernel)) (by decide +kernel)
theorem q_MO_97 (hts : ∀ w ∈ gT, w.before args s = true) (hrc : rm.cells = mc) (hrs : rm.slots = ms) (hR : rm.frames + 1 ≤ R.frames ∧ 8 + (4 + 11) + rm.locals ≤ R.locals) : CallW R s args R_MO R_MO 97 y_MO_goes b_MO_goes 4 (some .boolean) w_MO_goes rm mc ms 3 :=
  cwV 3 hts (gW_V m_MO_goes k_MO_97 (gT_in (List.mem_of_getElem? (i := 531) (by decide +kernel)) (by decide +kernel)) (gT_in (List.mem_of_getElem? (i := 14) (by decide +kernel)) (by decide +kernel)) k_ini_MO) rfl hrc hrs (by decide +kernel) hR
theorem k_MO_122 : Cond.methodLink R_MO 122 y_MO_walk ∈ gT := gT_in (List.mem_of_getElem? (i := 534) (by decide +kernel)) (by decide +kernel)
theorem q_MO_122 (hts : ∀ w ∈ gT, w.before args s = true) (hrc : rm.cells = mc) (hrs : rm.slots = ms) (hR : rm.frames + 1 ≤ R.frames ∧ 8 + (10 + 11) + rm.locals ≤ R.locals) : CallW R s args R_MO R_MO 122 y_MO_walk b_MO_walk 10 (some .boolean) w_MO_walk rm mc ms 3 :=
  cwV 3 hts (gW_V m_MO_walk k_MO_122 (gT_in (List.mem_of_getElem? (i := 536) (by decide +kernel)) (by decide +kernel)) (gT_in (List.mem_of_getElem? (i := 15) (by decide +kernel)) (by decide +kernel)) k_ini_MO) rfl hrc hrs (by decide +kernel) hR
theorem k_LW_51 : Cond.methodLink R_LW 51 y_MO_pipeOf ∈ gT := gT_in (List.mem_of_getElem? (i := 538) (by decide +kernel)) (by decide +kernel)
theorem q_LW_51 (hts : ∀ w ∈ gT, w.before args s = true) (hrc : rm.cells = mc) (hrs : rm.slots = ms) (hR : rm.frames + 1 ≤ R.frames ∧ 8 + (3 + 11) + rm.locals ≤ R.locals) : CallW R s args R_LW R_MO 51 y_MO_pipeOf b_MO_pipeOf 3 (some .int) w_MO_pipeOf rm mc ms 2 :=
  cwV 2 hts (gW_V m_MO_pipeOf k_LW_51 (gT_in (List.mem_of_getElem? (i := 539) (by decide +kernel)) (by decide +kernel)) (gT_in (List.mem_of_getElem? (i := 540) (by decide +kernel)) (by decide +kernel)) k_ini_MO) rfl hrc hrs (by decide +kernel) hR
theorem k_MO_125 : Cond.methodLink R_MO 125 y_MO_isWay ∈ gT := gT_in (List.mem_of_getElem? (i := 542) (by decide +kernel)) (by decide +kernel)
theorem q_MO_125 (hts : ∀ w ∈ gT, w.before args s = true) (hrc : rm.cells = mc) (hrs : rm.slots = ms) (hR : rm.frames + 1 ≤ R.frames ∧ 8 + (2 + 11) + rm.locals ≤ R.locals) : CallW R s args R_MO R_MO 125 y_MO_isWay b_MO_isWay 2 (some .boolean) w_MO_isWay rm mc ms 1 :=
  cwV 1 hts (gW_V m_MO_isWay k_MO_125 (gT_in (List.mem_of_getElem? (i := 544) (by decide +kernel)) (by decide +kernel)) (gT_in (List.mem_of_getElem? (i := 16) (by decide +kernel)) (by decide +kernel)) k_ini_MO) rfl hrc hrs (by decide +kernel) hR
theorem k_LW_55 : Cond.methodLink R_LW 55 y_MO_valveOf ∈ gT := gT_in (List.mem_of_getElem? (i := 546) (by decide +kernel)) (by decide +kernel)
theorem q_LW_55 (hts : ∀ w ∈ gT, w.before args s = true) (hrc : rm.cells = mc) (hrs : rm.slots = ms) (hR : rm.frames + 1 ≤ R.frames ∧ 8 + (6 + 11) + rm.locals ≤ R.locals) : CallW R s args R_LW R_MO 55 y_MO_valveOf b_MO_valveOf 6 (some .int) w_MO_valveOf rm mc ms 2 :=
  cwV 2 hts (gW_V m_MO_valveOf k_LW_55 (gT_in (List.mem_of_getElem? (i := 547) (by decide +kernel)) (by decide +kernel)) (gT_in (List.mem_of_getElem? (i := 548) (by decide +kernel)) (by decide +kernel)) k_ini_MO) rfl hrc hrs (by decide +kernel) hR
theorem k_MO_128 : Cond.methodLink R_MO 128 y_MO_behind ∈ gT := gT_in (List.mem_of_getElem? (i := 550) (by decide +kernel)) (by decide +kernel)
theorem q_MO_128 (hts : ∀ w ∈ gT, w.before args s = true) (hrc : rm.cells = mc) (hrs : rm.slots = ms) (hR : rm.frames + 1 ≤ R.frames ∧ 8 + (6 + 11) + rm.locals ≤ R.locals) : CallW R s args R_MO R_MO 128 y_MO_behind b_MO_behind 6 (some .int) w_MO_behind rm mc ms 2 :=
  cwV 2 hts (gW_V m_MO_behind k_MO_128 (gT_in (List.mem_of_getElem? (i := 552) (by decide +kernel)) (by decide +kernel)) (gT_in (List.mem_of_getElem? (i := 17) (by decide +kernel)) (by decide +kernel)) k_ini_MO) rfl hrc hrs (by decide +kernel) hR
theorem k_LW_60 : Cond.methodLink R_LW 60 y_MO_rest ∈ gT := gT_in (List.mem_of_getElem? (i := 554) (by decide +kernel)) (by decide +kernel)
theorem q_LW_60 (hts : ∀ w ∈ gT, w.before args s = true) (hrc : rm.cells = mc) (hrs : rm.slots = ms) (hR : rm.frames + 1 ≤ R.frames ∧ 8 + (5 + 11) + rm.locals ≤ R.locals) : CallW R s args R_LW R_MO 60 y_MO_rest b_MO_rest 5 (some .long) w_MO_rest rm mc ms 1 :=
  cwV 1 hts (gW_V m_MO_rest k_LW_60 (gT_in (List.mem_of_getElem? (i := 555) (by decide +kernel)) (by decide +kernel)) (gT_in (List.mem_of_getElem? (i := 556) (by decide +kernel)) (by decide +kernel)) k_ini_MO) rfl hrc hrs (by decide +kernel) hR
theorem k_LW_64 : Cond.methodLink R_LW 64 y_MO_other ∈ gT := gT_in (List.mem_of_getElem? (i := 559) (by decide +kernel)) (by decide +kernel)
theorem q_LW_64 (hts : ∀ w ∈ gT, w.before args s = true) (hrc : rm.cells = mc) (hrs : rm.slots = ms) (hR : rm.frames + 1 ≤ R.frames ∧ 8 + (3 + 11) + rm.locals ≤ R.locals) : CallW R s args R_LW R_MO 64 y_MO_other b_MO_other 3 (some .int) w_MO_other rm mc ms 2 :=
  cwV 2 hts (gW_V m_MO_other k_LW_64 (gT_in (List.mem_of_getElem? (i := 560) (by decide +kernel)) (by decide +kernel)) (gT_in (List.mem_of_getElem? (i := 561) (by decide +kernel)) (by decide +kernel)) k_ini_MO) rfl hrc hrs (by decide +kernel) hR
theorem k_LW_69 : Cond.methodLink R_LW 69 y_MO_two ∈ gT := gT_in (List.mem_of_getElem? (i := 563) (by decide +kernel)) (by decide +kernel)
theorem q_LW_69 (hts : ∀ w ∈ gT, w.before args s = true) (hrc : rm.cells = mc) (hrs : rm.slots = ms) (hR : rm.frames + 1 ≤ R.frames ∧ 8 + (15 + 11) + rm.locals ≤ R.locals) : CallW R s args R_LW R_MO 69 y_MO_two b_MO_two 15 (some .int) w_MO_two rm mc ms 4 :=
  cwV 4 hts (gW_V m_MO_two k_LW_69 (gT_in (List.mem_of_getElem? (i := 564) (by decide +kernel)) (by decide +kernel)) (gT_in (List.mem_of_getElem? (i := 565) (by decide +kernel)) (by decide +kernel)) k_ini_MO) rfl hrc hrs (by decide +kernel) hR
theorem k_MO_133 : Cond.methodLink R_MO 133 y_MO_find ∈ gT := gT_in (List.mem_of_getElem? (i := 567) (by decide +kernel)) (by decide +kernel)
theorem q_MO_133 (hts : ∀ w ∈ gT, w.before args s = true) (hrc : rm.cells = mc) (hrs : rm.slots = ms) (hR : rm.frames + 1 ≤ R.frames ∧ 8 + (8 + 11) + rm.locals ≤ R.locals) : CallW R s args R_MO R_MO 133 y_MO_find b_MO_find 8 (some .boolean) w_MO_find rm mc ms 5 :=
  cwV 5 hts (gW_V m_MO_find k_MO_133 (gT_in (List.mem_of_getElem? (i := 569) (by decide +kernel)) (by decide +kernel)) (gT_in (List.mem_of_getElem? (i := 18) (by decide +kernel)) (by decide +kernel)) k_ini_MO) rfl hrc hrs (by decide +kernel) hR
theorem k_LW_79 : Cond.methodLink R_LW 79 y_MO_told ∈ gT := gT_in (List.mem_of_getElem? (i := 571) (by decide +kernel)) (by decide +kernel)
theorem q_LW_79 (hts : ∀ w ∈ gT, w.before args s = true) (hrc : rm.cells = mc) (hrs : rm.slots = ms) (hR : rm.frames + 1 ≤ R.frames ∧ 8 + (6 + 11) + rm.locals ≤ R.locals) : CallW R s args R_LW R_MO 79 y_MO_told b_MO_told 6 (some .int) w_MO_told rm mc ms 1 :=
  cwV 1 hts (gW_V m_MO_told k_LW_79 (gT_in (List.mem_of_getElem? (i := 572) (by decide +kernel)) (by decide +kernel)) (gT_in (List.mem_of_getElem? (i := 573) (by decide +kernel)) (by decide +kernel)) k_ini_MO) rfl hrc hrs (by decide +kernel) hR
theorem k_LW_83 : Cond.methodLink R_LW 83 y_MO_blow ∈ gT := gT_in (List.mem_of_getElem? (i := 575) (by decide +kernel)) (by decide +kernel)
theorem q_LW_83 (hts : ∀ w ∈ gT, w.before args s = true) (hrc : rm.cells = mc) (hrs : rm.slots = ms) (hR : rm.frames + 1 ≤ R.frames ∧ 8 + (5 + 11) + rm.locals ≤ R.locals) : CallW R s args R_LW R_MO 83 y_MO_blow b_MO_blow 5 (some .int) w_MO_blow rm mc ms 2 :=
  cwV 2 hts (gW_V m_MO_blow k_LW_83 (gT_in (List.mem_of_getElem? (i := 576) (by decide +kernel)) (by decide +kernel)) (gT_in (List.mem_of_getElem? (i := 577) (by decide +kernel)) (by decide +kernel)) k_ini_MO) rfl hrc hrs (by decide +kernel) hR
end CALLS
end
section
theorem d_WS_init_0 : decode b_WS_init 0 = .ok (.aload_n 0, 1) := by decide +kernel
theorem d_WS_init_1 : decode b_WS_init 1 = .ok (.invokespecial 1, 3) := by decide +kernel
theorem d_WS_init_4 : decode b_WS_init 4 = .ok (.aload_n 0, 1) := by decide +kernel
theorem d_WS_init_5 : decode b_WS_init 5 = .ok (.new 7, 3) := by decide +kernel
theorem d_WS_init_8 : decode b_WS_init 8 = .ok (.dup, 1) := by decide +kernel
theorem d_WS_init_9 : decode b_WS_init 9 = .ok (.invokespecial 9, 3) := by decide +kernel
theorem d_WS_init_12 : decode b_WS_init 12 = .ok (.putfield 10, 3) := by decide +kernel
theorem d_WS_init_15 : decode b_WS_init 15 = .ok (.aload_n 0, 1) := by decide +kernel
theorem d_WS_init_16 : decode b_WS_init 16 = .ok (.new 16, 3) := by decide +kernel
theorem d_WS_init_19 : decode b_WS_init 19 = .ok (.dup, 1) := by decide +kernel
theorem d_WS_init_20 : decode b_WS_init 20 = .ok (.invokespecial 18, 3) := by decide +kernel
theorem d_WS_init_23 : decode b_WS_init 23 = .ok (.putfield 19, 3) := by decide +kernel
theorem d_WS_init_26 : decode b_WS_init 26 = .ok (.aload_n 0, 1) := by decide +kernel
theorem d_WS_init_27 : decode b_WS_init 27 = .ok (.new 23, 3) := by decide +kernel
theorem d_WS_init_30 : decode b_WS_init 30 = .ok (.dup, 1) := by decide +kernel
theorem d_WS_init_31 : decode b_WS_init 31 = .ok (.aload_n 0, 1) := by decide +kernel
theorem d_WS_init_32 : decode b_WS_init 32 = .ok (.getfield 10, 3) := by decide +kernel
theorem d_WS_init_35 : decode b_WS_init 35 = .ok (.aload_n 0, 1) := by decide +kernel
theorem d_WS_init_36 : decode b_WS_init 36 = .ok (.getfield 19, 3) := by decide +kernel
theorem d_WS_init_39 : decode b_WS_init 39 = .ok (.invokespecial 25, 3) := by decide +kernel
theorem d_WS_init_42 : decode b_WS_init 42 = .ok (.putfield 28, 3) := by decide +kernel
theorem d_WS_init_45 : decode b_WS_init 45 = .ok (.aload_n 0, 1) := by decide +kernel
theorem d_WS_init_46 : decode b_WS_init 46 = .ok (.bipush 64, 2) := by decide +kernel
theorem d_WS_init_48 : decode b_WS_init 48 = .ok (.anewarray 32, 3) := by decide +kernel
theorem d_WS_init_51 : decode b_WS_init 51 = .ok (.putfield 34, 3) := by decide +kernel
theorem d_WS_init_54 : decode b_WS_init 54 = .ok (.aload_n 0, 1) := by decide +kernel
theorem d_WS_init_55 : decode b_WS_init 55 = .ok (.iconst 0, 1) := by decide +kernel
theorem d_WS_init_56 : decode b_WS_init 56 = .ok (.putfield 38, 3) := by decide +kernel
theorem d_WS_init_59 : decode b_WS_init 59 = .ok (.return_, 1) := by decide +kernel
theorem d_TH_init_0 : decode b_TH_init 0 = .ok (.aload_n 0, 1) := by decide +kernel
theorem d_TH_init_1 : decode b_TH_init 1 = .ok (.invokespecial 3, 3) := by decide +kernel
theorem d_TH_init_4 : decode b_TH_init 4 = .ok (.aload_n 0, 1) := by decide +kernel
theorem d_TH_init_5 : decode b_TH_init 5 = .ok (.bipush 48, 2) := by decide +kernel
theorem d_TH_init_7 : decode b_TH_init 7 = .ok (.newarray .int, 2) := by decide +kernel
theorem d_TH_init_9 : decode b_TH_init 9 = .ok (.putfield 9, 3) := by decide +kernel
theorem d_TH_init_12 : decode b_TH_init 12 = .ok (.aload_n 0, 1) := by decide +kernel
theorem d_TH_init_13 : decode b_TH_init 13 = .ok (.bipush 48, 2) := by decide +kernel
theorem d_TH_init_15 : decode b_TH_init 15 = .ok (.newarray .boolean, 2) := by decide +kernel
theorem d_TH_init_17 : decode b_TH_init 17 = .ok (.putfield 15, 3) := by decide +kernel
theorem d_TH_init_20 : decode b_TH_init 20 = .ok (.aload_n 0, 1) := by decide +kernel
theorem d_TH_init_21 : decode b_TH_init 21 = .ok (.bipush 48, 2) := by decide +kernel
theorem d_TH_init_23 : decode b_TH_init 23 = .ok (.newarray .boolean, 2) := by decide +kernel
theorem d_TH_init_25 : decode b_TH_init 25 = .ok (.putfield 19, 3) := by decide +kernel
theorem d_TH_init_28 : decode b_TH_init 28 = .ok (.aload_n 0, 1) := by decide +kernel
theorem d_TH_init_29 : decode b_TH_init 29 = .ok (.bipush 48, 2) := by decide +kernel
theorem d_TH_init_31 : decode b_TH_init 31 = .ok (.newarray .int, 2) := by decide +kernel
theorem d_TH_init_33 : decode b_TH_init 33 = .ok (.putfield 22, 3) := by decide +kernel
theorem d_TH_init_36 : decode b_TH_init 36 = .ok (.aload_n 0, 1) := by decide +kernel
theorem d_TH_init_37 : decode b_TH_init 37 = .ok (.bipush 48, 2) := by decide +kernel
theorem d_TH_init_39 : decode b_TH_init 39 = .ok (.newarray .int, 2) := by decide +kernel
theorem d_TH_init_41 : decode b_TH_init 41 = .ok (.putfield 25, 3) := by decide +kernel
theorem d_TH_init_44 : decode b_TH_init 44 = .ok (.aload_n 0, 1) := by decide +kernel
theorem d_TH_init_45 : decode b_TH_init 45 = .ok (.iconst 0, 1) := by decide +kernel
theorem d_TH_init_46 : decode b_TH_init 46 = .ok (.putfield 28, 3) := by decide +kernel
theorem d_TH_init_49 : decode b_TH_init 49 = .ok (.return_, 1) := by decide +kernel
theorem d_PI_init_0 : decode b_PI_init 0 = .ok (.aload_n 0, 1) := by decide +kernel
theorem d_PI_init_1 : decode b_PI_init 1 = .ok (.invokespecial 3, 3) := by decide +kernel
theorem d_PI_init_4 : decode b_PI_init 4 = .ok (.aload_n 0, 1) := by decide +kernel
theorem d_PI_init_5 : decode b_PI_init 5 = .ok (.bipush 96, 2) := by decide +kernel
theorem d_PI_init_7 : decode b_PI_init 7 = .ok (.newarray .int, 2) := by decide +kernel
theorem d_PI_init_9 : decode b_PI_init 9 = .ok (.putfield 9, 3) := by decide +kernel
theorem d_PI_init_12 : decode b_PI_init 12 = .ok (.aload_n 0, 1) := by decide +kernel
theorem d_PI_init_13 : decode b_PI_init 13 = .ok (.bipush 96, 2) := by decide +kernel
theorem d_PI_init_15 : decode b_PI_init 15 = .ok (.newarray .int, 2) := by decide +kernel
theorem d_PI_init_17 : decode b_PI_init 17 = .ok (.putfield 15, 3) := by decide +kernel
theorem d_PI_init_20 : decode b_PI_init 20 = .ok (.aload_n 0, 1) := by decide +kernel
theorem d_PI_init_21 : decode b_PI_init 21 = .ok (.bipush 96, 2) := by decide +kernel
theorem d_PI_init_23 : decode b_PI_init 23 = .ok (.newarray .long, 2) := by decide +kernel
theorem d_PI_init_25 : decode b_PI_init 25 = .ok (.putfield 18, 3) := by decide +kernel
theorem d_PI_init_28 : decode b_PI_init 28 = .ok (.aload_n 0, 1) := by decide +kernel
theorem d_PI_init_29 : decode b_PI_init 29 = .ok (.bipush 96, 2) := by decide +kernel
theorem d_PI_init_31 : decode b_PI_init 31 = .ok (.newarray .boolean, 2) := by decide +kernel
theorem d_PI_init_33 : decode b_PI_init 33 = .ok (.putfield 22, 3) := by decide +kernel
theorem d_PI_init_36 : decode b_PI_init 36 = .ok (.aload_n 0, 1) := by decide +kernel
theorem d_PI_init_37 : decode b_PI_init 37 = .ok (.iconst 0, 1) := by decide +kernel
theorem d_PI_init_38 : decode b_PI_init 38 = .ok (.putfield 26, 3) := by decide +kernel
theorem d_PI_init_41 : decode b_PI_init 41 = .ok (.return_, 1) := by decide +kernel
theorem d_SE_init_0 : decode b_SE_init 0 = .ok (.aload_n 0, 1) := by decide +kernel
theorem d_SE_init_1 : decode b_SE_init 1 = .ok (.invokespecial 5, 3) := by decide +kernel
theorem d_SE_init_4 : decode b_SE_init 4 = .ok (.aload_n 0, 1) := by decide +kernel
theorem d_SE_init_5 : decode b_SE_init 5 = .ok (.bipush 48, 2) := by decide +kernel
theorem d_SE_init_7 : decode b_SE_init 7 = .ok (.newarray .boolean, 2) := by decide +kernel
theorem d_SE_init_9 : decode b_SE_init 9 = .ok (.putfield 11, 3) := by decide +kernel
theorem d_SE_init_12 : decode b_SE_init 12 = .ok (.aload_n 0, 1) := by decide +kernel
theorem d_SE_init_13 : decode b_SE_init 13 = .ok (.bipush 96, 2) := by decide +kernel
theorem d_SE_init_15 : decode b_SE_init 15 = .ok (.newarray .boolean, 2) := by decide +kernel
theorem d_SE_init_17 : decode b_SE_init 17 = .ok (.putfield 17, 3) := by decide +kernel
theorem d_SE_init_20 : decode b_SE_init 20 = .ok (.aload_n 0, 1) := by decide +kernel
theorem d_SE_init_21 : decode b_SE_init 21 = .ok (.sipush 192, 3) := by decide +kernel
theorem d_SE_init_24 : decode b_SE_init 24 = .ok (.newarray .int, 2) := by decide +kernel
theorem d_SE_init_26 : decode b_SE_init 26 = .ok (.putfield 20, 3) := by decide +kernel
theorem d_SE_init_29 : decode b_SE_init 29 = .ok (.aload_n 0, 1) := by decide +kernel
theorem d_SE_init_30 : decode b_SE_init 30 = .ok (.sipush 192, 3) := by decide +kernel
theorem d_SE_init_33 : decode b_SE_init 33 = .ok (.newarray .int, 2) := by decide +kernel
theorem d_SE_init_35 : decode b_SE_init 35 = .ok (.putfield 24, 3) := by decide +kernel
theorem d_SE_init_38 : decode b_SE_init 38 = .ok (.aload_n 0, 1) := by decide +kernel
theorem d_SE_init_39 : decode b_SE_init 39 = .ok (.sipush 192, 3) := by decide +kernel
theorem d_SE_init_42 : decode b_SE_init 42 = .ok (.newarray .int, 2) := by decide +kernel
theorem d_SE_init_44 : decode b_SE_init 44 = .ok (.putfield 27, 3) := by decide +kernel
theorem d_SE_init_47 : decode b_SE_init 47 = .ok (.aload_n 0, 1) := by decide +kernel
theorem d_SE_init_48 : decode b_SE_init 48 = .ok (.sipush 192, 3) := by decide +kernel
theorem d_SE_init_51 : decode b_SE_init 51 = .ok (.newarray .long, 2) := by decide +kernel
theorem d_SE_init_53 : decode b_SE_init 53 = .ok (.putfield 30, 3) := by decide +kernel
theorem d_SE_init_56 : decode b_SE_init 56 = .ok (.aload_n 0, 1) := by decide +kernel
theorem d_SE_init_57 : decode b_SE_init 57 = .ok (.iconst 0, 1) := by decide +kernel
theorem d_SE_init_58 : decode b_SE_init 58 = .ok (.putfield 34, 3) := by decide +kernel
theorem d_SE_init_61 : decode b_SE_init 61 = .ok (.aload_n 0, 1) := by decide +kernel
theorem d_SE_init_62 : decode b_SE_init 62 = .ok (.bipush 48, 2) := by decide +kernel
theorem d_SE_init_64 : decode b_SE_init 64 = .ok (.newarray .long, 2) := by decide +kernel
theorem d_SE_init_66 : decode b_SE_init 66 = .ok (.putfield 38, 3) := by decide +kernel
theorem d_SE_init_69 : decode b_SE_init 69 = .ok (.aload_n 0, 1) := by decide +kernel
theorem d_SE_init_70 : decode b_SE_init 70 = .ok (.bipush 48, 2) := by decide +kernel
theorem d_SE_init_72 : decode b_SE_init 72 = .ok (.newarray .int, 2) := by decide +kernel
theorem d_SE_init_74 : decode b_SE_init 74 = .ok (.putfield 41, 3) := by decide +kernel
theorem d_SE_init_77 : decode b_SE_init 77 = .ok (.aload_n 0, 1) := by decide +kernel
theorem d_SE_init_78 : decode b_SE_init 78 = .ok (.bipush 48, 2) := by decide +kernel
theorem d_SE_init_80 : decode b_SE_init 80 = .ok (.newarray .int, 2) := by decide +kernel
theorem d_SE_init_82 : decode b_SE_init 82 = .ok (.putfield 44, 3) := by decide +kernel
theorem d_SE_init_85 : decode b_SE_init 85 = .ok (.aload_n 0, 1) := by decide +kernel
theorem d_SE_init_86 : decode b_SE_init 86 = .ok (.aload_n 1, 1) := by decide +kernel
theorem d_SE_init_87 : decode b_SE_init 87 = .ok (.putfield 47, 3) := by decide +kernel
theorem d_SE_init_90 : decode b_SE_init 90 = .ok (.aload_n 0, 1) := by decide +kernel
theorem d_SE_init_91 : decode b_SE_init 91 = .ok (.aload_n 2, 1) := by decide +kernel
theorem d_SE_init_92 : decode b_SE_init 92 = .ok (.putfield 51, 3) := by decide +kernel
theorem d_SE_init_95 : decode b_SE_init 95 = .ok (.return_, 1) := by decide +kernel
theorem d_WS_tank_0 : decode b_WS_tank 0 = .ok (.aload_n 0, 1) := by decide +kernel
theorem d_WS_tank_1 : decode b_WS_tank 1 = .ok (.getfield 10, 3) := by decide +kernel
theorem d_WS_tank_4 : decode b_WS_tank 4 = .ok (.iconst 0, 1) := by decide +kernel
theorem d_WS_tank_5 : decode b_WS_tank 5 = .ok (.iload_n 1, 1) := by decide +kernel
theorem d_WS_tank_6 : decode b_WS_tank 6 = .ok (.invokevirtual 42, 3) := by decide +kernel
theorem d_WS_tank_9 : decode b_WS_tank 9 = .ok (.ireturn, 1) := by decide +kernel
theorem d_TH_add_0 : decode b_TH_add 0 = .ok (.aload_n 0, 1) := by decide +kernel
theorem d_TH_add_1 : decode b_TH_add 1 = .ok (.getfield 28, 3) := by decide +kernel
theorem d_TH_add_4 : decode b_TH_add 4 = .ok (.bipush 48, 2) := by decide +kernel
theorem d_TH_add_6 : decode b_TH_add 6 = .ok (.if_icmp .lt 6, 3) := by decide +kernel
theorem d_TH_add_9 : decode b_TH_add 9 = .ok (.bipush (-5), 2) := by decide +kernel
theorem d_TH_add_11 : decode b_TH_add 11 = .ok (.ireturn, 1) := by decide +kernel
theorem d_TH_add_12 : decode b_TH_add 12 = .ok (.aload_n 0, 1) := by decide +kernel
theorem d_TH_add_13 : decode b_TH_add 13 = .ok (.getfield 9, 3) := by decide +kernel
theorem d_TH_add_16 : decode b_TH_add 16 = .ok (.aload_n 0, 1) := by decide +kernel
theorem d_TH_add_17 : decode b_TH_add 17 = .ok (.getfield 28, 3) := by decide +kernel
theorem d_TH_add_20 : decode b_TH_add 20 = .ok (.iload_n 1, 1) := by decide +kernel
theorem d_TH_add_21 : decode b_TH_add 21 = .ok (.iastore, 1) := by decide +kernel
theorem d_TH_add_22 : decode b_TH_add 22 = .ok (.aload_n 0, 1) := by decide +kernel
theorem d_TH_add_23 : decode b_TH_add 23 = .ok (.getfield 15, 3) := by decide +kernel
theorem d_TH_add_26 : decode b_TH_add 26 = .ok (.aload_n 0, 1) := by decide +kernel
theorem d_TH_add_27 : decode b_TH_add 27 = .ok (.getfield 28, 3) := by decide +kernel
theorem d_TH_add_30 : decode b_TH_add 30 = .ok (.iload_n 2, 1) := by decide +kernel
theorem d_TH_add_31 : decode b_TH_add 31 = .ok (.bastore, 1) := by decide +kernel
theorem d_TH_add_32 : decode b_TH_add 32 = .ok (.aload_n 0, 1) := by decide +kernel
theorem d_TH_add_33 : decode b_TH_add 33 = .ok (.getfield 22, 3) := by decide +kernel
theorem d_TH_add_36 : decode b_TH_add 36 = .ok (.aload_n 0, 1) := by decide +kernel
theorem d_TH_add_37 : decode b_TH_add 37 = .ok (.getfield 28, 3) := by decide +kernel
theorem d_TH_add_40 : decode b_TH_add 40 = .ok (.iconst (-1), 1) := by decide +kernel
theorem d_TH_add_41 : decode b_TH_add 41 = .ok (.iastore, 1) := by decide +kernel
theorem d_TH_add_42 : decode b_TH_add 42 = .ok (.aload_n 0, 1) := by decide +kernel
theorem d_TH_add_43 : decode b_TH_add 43 = .ok (.getfield 25, 3) := by decide +kernel
theorem d_TH_add_46 : decode b_TH_add 46 = .ok (.aload_n 0, 1) := by decide +kernel
theorem d_TH_add_47 : decode b_TH_add 47 = .ok (.getfield 28, 3) := by decide +kernel
theorem d_TH_add_50 : decode b_TH_add 50 = .ok (.iconst (-1), 1) := by decide +kernel
theorem d_TH_add_51 : decode b_TH_add 51 = .ok (.iastore, 1) := by decide +kernel
theorem d_TH_add_52 : decode b_TH_add 52 = .ok (.aload_n 0, 1) := by decide +kernel
theorem d_TH_add_53 : decode b_TH_add 53 = .ok (.dup, 1) := by decide +kernel
theorem d_TH_add_54 : decode b_TH_add 54 = .ok (.getfield 28, 3) := by decide +kernel
theorem d_TH_add_57 : decode b_TH_add 57 = .ok (.iconst 1, 1) := by decide +kernel
theorem d_TH_add_58 : decode b_TH_add 58 = .ok (.iadd, 1) := by decide +kernel
theorem d_TH_add_59 : decode b_TH_add 59 = .ok (.putfield 28, 3) := by decide +kernel
theorem d_TH_add_62 : decode b_TH_add 62 = .ok (.aload_n 0, 1) := by decide +kernel
theorem d_TH_add_63 : decode b_TH_add 63 = .ok (.getfield 28, 3) := by decide +kernel
theorem d_TH_add_66 : decode b_TH_add 66 = .ok (.iconst 1, 1) := by decide +kernel
theorem d_TH_add_67 : decode b_TH_add 67 = .ok (.isub, 1) := by decide +kernel
theorem d_TH_add_68 : decode b_TH_add 68 = .ok (.ireturn, 1) := by decide +kernel
theorem d_WS_pump_0 : decode b_WS_pump 0 = .ok (.aload_n 0, 1) := by decide +kernel
theorem d_WS_pump_1 : decode b_WS_pump 1 = .ok (.getfield 10, 3) := by decide +kernel
theorem d_WS_pump_4 : decode b_WS_pump 4 = .ok (.iconst 1, 1) := by decide +kernel
theorem d_WS_pump_5 : decode b_WS_pump 5 = .ok (.iconst 0, 1) := by decide +kernel
theorem d_WS_pump_6 : decode b_WS_pump 6 = .ok (.invokevirtual 42, 3) := by decide +kernel
theorem d_WS_pump_9 : decode b_WS_pump 9 = .ok (.ireturn, 1) := by decide +kernel
theorem d_WS_valve_0 : decode b_WS_valve 0 = .ok (.aload_n 0, 1) := by decide +kernel
theorem d_WS_valve_1 : decode b_WS_valve 1 = .ok (.getfield 10, 3) := by decide +kernel
theorem d_WS_valve_4 : decode b_WS_valve 4 = .ok (.iconst 2, 1) := by decide +kernel
theorem d_WS_valve_5 : decode b_WS_valve 5 = .ok (.iconst 0, 1) := by decide +kernel
theorem d_WS_valve_6 : decode b_WS_valve 6 = .ok (.invokevirtual 42, 3) := by decide +kernel
theorem d_WS_valve_9 : decode b_WS_valve 9 = .ok (.ireturn, 1) := by decide +kernel
theorem d_WS_pipe_0 : decode b_WS_pipe 0 = .ok (.aload_n 0, 1) := by decide +kernel
theorem d_WS_pipe_1 : decode b_WS_pipe 1 = .ok (.getfield 10, 3) := by decide +kernel
theorem d_WS_pipe_4 : decode b_WS_pipe 4 = .ok (.iload_n 1, 1) := by decide +kernel
theorem d_WS_pipe_5 : decode b_WS_pipe 5 = .ok (.invokevirtual 46, 3) := by decide +kernel
theorem d_WS_pipe_8 : decode b_WS_pipe 8 = .ok (.ifCond .eq 14, 3) := by decide +kernel
theorem d_WS_pipe_11 : decode b_WS_pipe 11 = .ok (.aload_n 0, 1) := by decide +kernel
theorem d_WS_pipe_12 : decode b_WS_pipe 12 = .ok (.getfield 10, 3) := by decide +kernel
theorem d_WS_pipe_15 : decode b_WS_pipe 15 = .ok (.iload_n 2, 1) := by decide +kernel
theorem d_WS_pipe_16 : decode b_WS_pipe 16 = .ok (.invokevirtual 46, 3) := by decide +kernel
theorem d_WS_pipe_19 : decode b_WS_pipe 19 = .ok (.ifCond .ne 6, 3) := by decide +kernel
theorem d_WS_pipe_22 : decode b_WS_pipe 22 = .ok (.bipush (-2), 2) := by decide +kernel
theorem d_WS_pipe_24 : decode b_WS_pipe 24 = .ok (.ireturn, 1) := by decide +kernel
theorem d_WS_pipe_25 : decode b_WS_pipe 25 = .ok (.lload_n 3, 1) := by decide +kernel
theorem d_WS_pipe_26 : decode b_WS_pipe 26 = .ok (.lconst 1, 1) := by decide +kernel
theorem d_WS_pipe_27 : decode b_WS_pipe 27 = .ok (.lcmp, 1) := by decide +kernel
theorem d_WS_pipe_28 : decode b_WS_pipe 28 = .ok (.ifCond .lt 16, 3) := by decide +kernel
theorem d_WS_pipe_31 : decode b_WS_pipe 31 = .ok (.lload_n 3, 1) := by decide +kernel
theorem d_WS_pipe_32 : decode b_WS_pipe 32 = .ok (.ldc2_w 50, 3) := by decide +kernel
theorem d_WS_pipe_35 : decode b_WS_pipe 35 = .ok (.lcmp, 1) := by decide +kernel
theorem d_WS_pipe_36 : decode b_WS_pipe 36 = .ok (.ifCond .gt 8, 3) := by decide +kernel
theorem d_WS_pipe_39 : decode b_WS_pipe 39 = .ok (.iload_n 1, 1) := by decide +kernel
theorem d_WS_pipe_40 : decode b_WS_pipe 40 = .ok (.iload_n 2, 1) := by decide +kernel
theorem d_WS_pipe_41 : decode b_WS_pipe 41 = .ok (.if_icmp .ne 5, 3) := by decide +kernel
theorem d_WS_pipe_44 : decode b_WS_pipe 44 = .ok (.iconst (-1), 1) := by decide +kernel
theorem d_WS_pipe_45 : decode b_WS_pipe 45 = .ok (.ireturn, 1) := by decide +kernel
theorem d_WS_pipe_46 : decode b_WS_pipe 46 = .ok (.aload_n 0, 1) := by decide +kernel
theorem d_WS_pipe_47 : decode b_WS_pipe 47 = .ok (.getfield 19, 3) := by decide +kernel
theorem d_WS_pipe_50 : decode b_WS_pipe 50 = .ok (.iload_n 1, 1) := by decide +kernel
theorem d_WS_pipe_51 : decode b_WS_pipe 51 = .ok (.iload_n 2, 1) := by decide +kernel
theorem d_WS_pipe_52 : decode b_WS_pipe 52 = .ok (.lload_n 3, 1) := by decide +kernel
theorem d_WS_pipe_53 : decode b_WS_pipe 53 = .ok (.invokevirtual 52, 3) := by decide +kernel
theorem d_WS_pipe_56 : decode b_WS_pipe 56 = .ok (.ireturn, 1) := by decide +kernel
theorem d_TH_has_0 : decode b_TH_has 0 = .ok (.iload_n 1, 1) := by decide +kernel
theorem d_TH_has_1 : decode b_TH_has 1 = .ok (.ifCond .lt 15, 3) := by decide +kernel
theorem d_TH_has_4 : decode b_TH_has 4 = .ok (.iload_n 1, 1) := by decide +kernel
theorem d_TH_has_5 : decode b_TH_has 5 = .ok (.aload_n 0, 1) := by decide +kernel
theorem d_TH_has_6 : decode b_TH_has 6 = .ok (.getfield 28, 3) := by decide +kernel
theorem d_TH_has_9 : decode b_TH_has 9 = .ok (.if_icmp .ge 7, 3) := by decide +kernel
theorem d_TH_has_12 : decode b_TH_has 12 = .ok (.iconst 1, 1) := by decide +kernel
theorem d_TH_has_13 : decode b_TH_has 13 = .ok (.goto 4, 3) := by decide +kernel
theorem d_TH_has_16 : decode b_TH_has 16 = .ok (.iconst 0, 1) := by decide +kernel
theorem d_TH_has_17 : decode b_TH_has 17 = .ok (.ireturn, 1) := by decide +kernel
theorem d_PI_add_0 : decode b_PI_add 0 = .ok (.aload_n 0, 1) := by decide +kernel
theorem d_PI_add_1 : decode b_PI_add 1 = .ok (.getfield 26, 3) := by decide +kernel
theorem d_PI_add_4 : decode b_PI_add 4 = .ok (.bipush 96, 2) := by decide +kernel
theorem d_PI_add_6 : decode b_PI_add 6 = .ok (.if_icmp .lt 6, 3) := by decide +kernel
theorem d_PI_add_9 : decode b_PI_add 9 = .ok (.bipush (-5), 2) := by decide +kernel
theorem d_PI_add_11 : decode b_PI_add 11 = .ok (.ireturn, 1) := by decide +kernel
theorem d_PI_add_12 : decode b_PI_add 12 = .ok (.aload_n 0, 1) := by decide +kernel
theorem d_PI_add_13 : decode b_PI_add 13 = .ok (.getfield 9, 3) := by decide +kernel
theorem d_PI_add_16 : decode b_PI_add 16 = .ok (.aload_n 0, 1) := by decide +kernel
theorem d_PI_add_17 : decode b_PI_add 17 = .ok (.getfield 26, 3) := by decide +kernel
theorem d_PI_add_20 : decode b_PI_add 20 = .ok (.iload_n 1, 1) := by decide +kernel
theorem d_PI_add_21 : decode b_PI_add 21 = .ok (.iastore, 1) := by decide +kernel
theorem d_PI_add_22 : decode b_PI_add 22 = .ok (.aload_n 0, 1) := by decide +kernel
theorem d_PI_add_23 : decode b_PI_add 23 = .ok (.getfield 15, 3) := by decide +kernel
theorem d_PI_add_26 : decode b_PI_add 26 = .ok (.aload_n 0, 1) := by decide +kernel
theorem d_PI_add_27 : decode b_PI_add 27 = .ok (.getfield 26, 3) := by decide +kernel
theorem d_PI_add_30 : decode b_PI_add 30 = .ok (.iload_n 2, 1) := by decide +kernel
theorem d_PI_add_31 : decode b_PI_add 31 = .ok (.iastore, 1) := by decide +kernel
theorem d_PI_add_32 : decode b_PI_add 32 = .ok (.aload_n 0, 1) := by decide +kernel
theorem d_PI_add_33 : decode b_PI_add 33 = .ok (.getfield 18, 3) := by decide +kernel
theorem d_PI_add_36 : decode b_PI_add 36 = .ok (.aload_n 0, 1) := by decide +kernel
theorem d_PI_add_37 : decode b_PI_add 37 = .ok (.getfield 26, 3) := by decide +kernel
theorem d_PI_add_40 : decode b_PI_add 40 = .ok (.lload_n 3, 1) := by decide +kernel
theorem d_PI_add_41 : decode b_PI_add 41 = .ok (.lastore, 1) := by decide +kernel
theorem d_PI_add_42 : decode b_PI_add 42 = .ok (.aload_n 0, 1) := by decide +kernel
theorem d_PI_add_43 : decode b_PI_add 43 = .ok (.dup, 1) := by decide +kernel
theorem d_PI_add_44 : decode b_PI_add 44 = .ok (.getfield 26, 3) := by decide +kernel
theorem d_PI_add_47 : decode b_PI_add 47 = .ok (.iconst 1, 1) := by decide +kernel
theorem d_PI_add_48 : decode b_PI_add 48 = .ok (.iadd, 1) := by decide +kernel
theorem d_PI_add_49 : decode b_PI_add 49 = .ok (.putfield 26, 3) := by decide +kernel
theorem d_PI_add_52 : decode b_PI_add 52 = .ok (.aload_n 0, 1) := by decide +kernel
theorem d_PI_add_53 : decode b_PI_add 53 = .ok (.getfield 26, 3) := by decide +kernel
theorem d_PI_add_56 : decode b_PI_add 56 = .ok (.iconst 1, 1) := by decide +kernel
theorem d_PI_add_57 : decode b_PI_add 57 = .ok (.isub, 1) := by decide +kernel
theorem d_PI_add_58 : decode b_PI_add 58 = .ok (.ireturn, 1) := by decide +kernel
theorem d_WS_run_0 : decode b_WS_run 0 = .ok (.aload_n 0, 1) := by decide +kernel
theorem d_WS_run_1 : decode b_WS_run 1 = .ok (.getfield 19, 3) := by decide +kernel
theorem d_WS_run_4 : decode b_WS_run 4 = .ok (.iload_n 1, 1) := by decide +kernel
theorem d_WS_run_5 : decode b_WS_run 5 = .ok (.invokevirtual 55, 3) := by decide +kernel
theorem d_WS_run_8 : decode b_WS_run 8 = .ok (.ifCond .ne 5, 3) := by decide +kernel
theorem d_WS_run_11 : decode b_WS_run 11 = .ok (.iconst 0, 1) := by decide +kernel
theorem d_WS_run_12 : decode b_WS_run 12 = .ok (.ireturn, 1) := by decide +kernel
theorem d_WS_run_13 : decode b_WS_run 13 = .ok (.aload_n 0, 1) := by decide +kernel
theorem d_WS_run_14 : decode b_WS_run 14 = .ok (.getfield 19, 3) := by decide +kernel
theorem d_WS_run_17 : decode b_WS_run 17 = .ok (.getfield 56, 3) := by decide +kernel
theorem d_WS_run_20 : decode b_WS_run 20 = .ok (.iload_n 1, 1) := by decide +kernel
theorem d_WS_run_21 : decode b_WS_run 21 = .ok (.iload_n 2, 1) := by decide +kernel
theorem d_WS_run_22 : decode b_WS_run 22 = .ok (.invokestatic 60, 3) := by decide +kernel
theorem d_WS_run_25 : decode b_WS_run 25 = .ok (.ireturn, 1) := by decide +kernel
theorem d_PI_has_0 : decode b_PI_has 0 = .ok (.iload_n 1, 1) := by decide +kernel
theorem d_PI_has_1 : decode b_PI_has 1 = .ok (.ifCond .lt 15, 3) := by decide +kernel
theorem d_PI_has_4 : decode b_PI_has 4 = .ok (.iload_n 1, 1) := by decide +kernel
theorem d_PI_has_5 : decode b_PI_has 5 = .ok (.aload_n 0, 1) := by decide +kernel
theorem d_PI_has_6 : decode b_PI_has 6 = .ok (.getfield 26, 3) := by decide +kernel
theorem d_PI_has_9 : decode b_PI_has 9 = .ok (.if_icmp .ge 7, 3) := by decide +kernel
theorem d_PI_has_12 : decode b_PI_has 12 = .ok (.iconst 1, 1) := by decide +kernel
theorem d_PI_has_13 : decode b_PI_has 13 = .ok (.goto 4, 3) := by decide +kernel
theorem d_PI_has_16 : decode b_PI_has 16 = .ok (.iconst 0, 1) := by decide +kernel
theorem d_PI_has_17 : decode b_PI_has 17 = .ok (.ireturn, 1) := by decide +kernel
theorem d_WS_changeMark_0 : decode b_WS_changeMark 0 = .ok (.aload_n 0, 1) := by decide +kernel
theorem d_WS_changeMark_1 : decode b_WS_changeMark 1 = .ok (.iload_n 1, 1) := by decide +kernel
theorem d_WS_changeMark_2 : decode b_WS_changeMark 2 = .ok (.baload, 1) := by decide +kernel
theorem d_WS_changeMark_3 : decode b_WS_changeMark 3 = .ok (.iload_n 2, 1) := by decide +kernel
theorem d_WS_changeMark_4 : decode b_WS_changeMark 4 = .ok (.if_icmp .eq 7, 3) := by decide +kernel
theorem d_WS_changeMark_7 : decode b_WS_changeMark 7 = .ok (.iconst 1, 1) := by decide +kernel
theorem d_WS_changeMark_8 : decode b_WS_changeMark 8 = .ok (.goto 4, 3) := by decide +kernel
theorem d_WS_changeMark_11 : decode b_WS_changeMark 11 = .ok (.iconst 0, 1) := by decide +kernel
theorem d_WS_changeMark_12 : decode b_WS_changeMark 12 = .ok (.istore_n 3, 1) := by decide +kernel
theorem d_WS_changeMark_13 : decode b_WS_changeMark 13 = .ok (.aload_n 0, 1) := by decide +kernel
theorem d_WS_changeMark_14 : decode b_WS_changeMark 14 = .ok (.iload_n 1, 1) := by decide +kernel
theorem d_WS_changeMark_15 : decode b_WS_changeMark 15 = .ok (.iload_n 2, 1) := by decide +kernel
theorem d_WS_changeMark_16 : decode b_WS_changeMark 16 = .ok (.bastore, 1) := by decide +kernel
theorem d_WS_changeMark_17 : decode b_WS_changeMark 17 = .ok (.iload_n 3, 1) := by decide +kernel
theorem d_WS_changeMark_18 : decode b_WS_changeMark 18 = .ok (.ireturn, 1) := by decide +kernel
theorem d_WS_bar_0 : decode b_WS_bar 0 = .ok (.aload_n 0, 1) := by decide +kernel
theorem d_WS_bar_1 : decode b_WS_bar 1 = .ok (.getfield 10, 3) := by decide +kernel
theorem d_WS_bar_4 : decode b_WS_bar 4 = .ok (.iload_n 1, 1) := by decide +kernel
theorem d_WS_bar_5 : decode b_WS_bar 5 = .ok (.invokevirtual 46, 3) := by decide +kernel
theorem d_WS_bar_8 : decode b_WS_bar 8 = .ok (.ifCond .ne 5, 3) := by decide +kernel
theorem d_WS_bar_11 : decode b_WS_bar 11 = .ok (.iconst 0, 1) := by decide +kernel
theorem d_WS_bar_12 : decode b_WS_bar 12 = .ok (.ireturn, 1) := by decide +kernel
theorem d_WS_bar_13 : decode b_WS_bar 13 = .ok (.aload_n 0, 1) := by decide +kernel
theorem d_WS_bar_14 : decode b_WS_bar 14 = .ok (.getfield 10, 3) := by decide +kernel
theorem d_WS_bar_17 : decode b_WS_bar 17 = .ok (.getfield 64, 3) := by decide +kernel
theorem d_WS_bar_20 : decode b_WS_bar 20 = .ok (.iload_n 1, 1) := by decide +kernel
theorem d_WS_bar_21 : decode b_WS_bar 21 = .ok (.iload_n 2, 1) := by decide +kernel
theorem d_WS_bar_22 : decode b_WS_bar 22 = .ok (.invokestatic 60, 3) := by decide +kernel
theorem d_WS_bar_25 : decode b_WS_bar 25 = .ok (.ireturn, 1) := by decide +kernel
theorem d_WS_way_0 : decode b_WS_way 0 = .ok (.aload_n 0, 1) := by decide +kernel
theorem d_WS_way_1 : decode b_WS_way 1 = .ok (.iload_n 1, 1) := by decide +kernel
theorem d_WS_way_2 : decode b_WS_way 2 = .ok (.iload_n 2, 1) := by decide +kernel
theorem d_WS_way_3 : decode b_WS_way 3 = .ok (.invokevirtual 67, 3) := by decide +kernel
theorem d_WS_way_6 : decode b_WS_way 6 = .ok (.istore_n 3, 1) := by decide +kernel
theorem d_WS_way_7 : decode b_WS_way 7 = .ok (.iload_n 3, 1) := by decide +kernel
theorem d_WS_way_8 : decode b_WS_way 8 = .ok (.ifCond .eq 5, 3) := by decide +kernel
theorem d_WS_way_11 : decode b_WS_way 11 = .ok (.iload_n 3, 1) := by decide +kernel
theorem d_WS_way_12 : decode b_WS_way 12 = .ok (.ireturn, 1) := by decide +kernel
theorem d_WS_way_13 : decode b_WS_way 13 = .ok (.aload_n 0, 1) := by decide +kernel
theorem d_WS_way_14 : decode b_WS_way 14 = .ok (.getfield 28, 3) := by decide +kernel
theorem d_WS_way_17 : decode b_WS_way 17 = .ok (.invokevirtual 71, 3) := by decide +kernel
theorem d_WS_way_20 : decode b_WS_way 20 = .ok (.aload_n 0, 1) := by decide +kernel
theorem d_WS_way_21 : decode b_WS_way 21 = .ok (.aload_n 0, 1) := by decide +kernel
theorem d_WS_way_22 : decode b_WS_way 22 = .ok (.getfield 28, 3) := by decide +kernel
theorem d_WS_way_25 : decode b_WS_way 25 = .ok (.iload_n 1, 1) := by decide +kernel
theorem d_WS_way_26 : decode b_WS_way 26 = .ok (.iload_n 2, 1) := by decide +kernel
theorem d_WS_way_27 : decode b_WS_way 27 = .ok (.invokevirtual 74, 3) := by decide +kernel
theorem d_WS_way_30 : decode b_WS_way 30 = .ok (.invokevirtual 78, 3) := by decide +kernel
theorem d_WS_way_33 : decode b_WS_way 33 = .ok (.ireturn, 1) := by decide +kernel
theorem d_WS_refusalOfEnds_0 : decode b_WS_refusalOfEnds 0 = .ok (.aload_n 0, 1) := by decide +kernel
theorem d_WS_refusalOfEnds_1 : decode b_WS_refusalOfEnds 1 = .ok (.getfield 10, 3) := by decide +kernel
theorem d_WS_refusalOfEnds_4 : decode b_WS_refusalOfEnds 4 = .ok (.iload_n 1, 1) := by decide +kernel
theorem d_WS_refusalOfEnds_5 : decode b_WS_refusalOfEnds 5 = .ok (.iconst 0, 1) := by decide +kernel
theorem d_WS_refusalOfEnds_6 : decode b_WS_refusalOfEnds 6 = .ok (.invokevirtual 93, 3) := by decide +kernel
theorem d_WS_refusalOfEnds_9 : decode b_WS_refusalOfEnds 9 = .ok (.ifCond .eq 15, 3) := by decide +kernel
theorem d_WS_refusalOfEnds_12 : decode b_WS_refusalOfEnds 12 = .ok (.aload_n 0, 1) := by decide +kernel
theorem d_WS_refusalOfEnds_13 : decode b_WS_refusalOfEnds 13 = .ok (.getfield 10, 3) := by decide +kernel
theorem d_WS_refusalOfEnds_16 : decode b_WS_refusalOfEnds 16 = .ok (.iload_n 2, 1) := by decide +kernel
theorem d_WS_refusalOfEnds_17 : decode b_WS_refusalOfEnds 17 = .ok (.iconst 0, 1) := by decide +kernel
theorem d_WS_refusalOfEnds_18 : decode b_WS_refusalOfEnds 18 = .ok (.invokevirtual 93, 3) := by decide +kernel
theorem d_WS_refusalOfEnds_21 : decode b_WS_refusalOfEnds 21 = .ok (.ifCond .ne 6, 3) := by decide +kernel
theorem d_WS_refusalOfEnds_24 : decode b_WS_refusalOfEnds 24 = .ok (.bipush (-2), 2) := by decide +kernel
theorem d_WS_refusalOfEnds_26 : decode b_WS_refusalOfEnds 26 = .ok (.ireturn, 1) := by decide +kernel
theorem d_WS_refusalOfEnds_27 : decode b_WS_refusalOfEnds 27 = .ok (.iload_n 1, 1) := by decide +kernel
theorem d_WS_refusalOfEnds_28 : decode b_WS_refusalOfEnds 28 = .ok (.iload_n 2, 1) := by decide +kernel
theorem d_WS_refusalOfEnds_29 : decode b_WS_refusalOfEnds 29 = .ok (.if_icmp .ne 6, 3) := by decide +kernel
theorem d_WS_refusalOfEnds_32 : decode b_WS_refusalOfEnds 32 = .ok (.bipush (-3), 2) := by decide +kernel
theorem d_WS_refusalOfEnds_34 : decode b_WS_refusalOfEnds 34 = .ok (.ireturn, 1) := by decide +kernel
theorem d_WS_refusalOfEnds_35 : decode b_WS_refusalOfEnds 35 = .ok (.aload_n 0, 1) := by decide +kernel
theorem d_WS_refusalOfEnds_36 : decode b_WS_refusalOfEnds 36 = .ok (.getfield 10, 3) := by decide +kernel
theorem d_WS_refusalOfEnds_39 : decode b_WS_refusalOfEnds 39 = .ok (.getfield 134, 3) := by decide +kernel
theorem d_WS_refusalOfEnds_42 : decode b_WS_refusalOfEnds 42 = .ok (.iload_n 1, 1) := by decide +kernel
theorem d_WS_refusalOfEnds_43 : decode b_WS_refusalOfEnds 43 = .ok (.baload, 1) := by decide +kernel
theorem d_WS_refusalOfEnds_44 : decode b_WS_refusalOfEnds 44 = .ok (.ifCond .eq 8, 3) := by decide +kernel
theorem d_WS_refusalOfEnds_47 : decode b_WS_refusalOfEnds 47 = .ok (.bipush (-4), 2) := by decide +kernel
theorem d_WS_refusalOfEnds_49 : decode b_WS_refusalOfEnds 49 = .ok (.goto 4, 3) := by decide +kernel
theorem d_WS_refusalOfEnds_52 : decode b_WS_refusalOfEnds 52 = .ok (.iconst 0, 1) := by decide +kernel
theorem d_WS_refusalOfEnds_53 : decode b_WS_refusalOfEnds 53 = .ok (.ireturn, 1) := by decide +kernel
theorem d_TH_isKind_0 : decode b_TH_isKind 0 = .ok (.aload_n 0, 1) := by decide +kernel
theorem d_TH_isKind_1 : decode b_TH_isKind 1 = .ok (.iload_n 1, 1) := by decide +kernel
theorem d_TH_isKind_2 : decode b_TH_isKind 2 = .ok (.invokevirtual 32, 3) := by decide +kernel
theorem d_TH_isKind_5 : decode b_TH_isKind 5 = .ok (.ifCond .eq 17, 3) := by decide +kernel
theorem d_TH_isKind_8 : decode b_TH_isKind 8 = .ok (.aload_n 0, 1) := by decide +kernel
theorem d_TH_isKind_9 : decode b_TH_isKind 9 = .ok (.getfield 9, 3) := by decide +kernel
theorem d_TH_isKind_12 : decode b_TH_isKind 12 = .ok (.iload_n 1, 1) := by decide +kernel
theorem d_TH_isKind_13 : decode b_TH_isKind 13 = .ok (.iaload, 1) := by decide +kernel
theorem d_TH_isKind_14 : decode b_TH_isKind 14 = .ok (.iload_n 2, 1) := by decide +kernel
theorem d_TH_isKind_15 : decode b_TH_isKind 15 = .ok (.if_icmp .ne 7, 3) := by decide +kernel
theorem d_TH_isKind_18 : decode b_TH_isKind 18 = .ok (.iconst 1, 1) := by decide +kernel
theorem d_TH_isKind_19 : decode b_TH_isKind 19 = .ok (.goto 4, 3) := by decide +kernel
theorem d_TH_isKind_22 : decode b_TH_isKind 22 = .ok (.iconst 0, 1) := by decide +kernel
theorem d_TH_isKind_23 : decode b_TH_isKind 23 = .ok (.ireturn, 1) := by decide +kernel
theorem d_SE_openAll_0 : decode b_SE_openAll 0 = .ok (.iconst 0, 1) := by decide +kernel
theorem d_SE_openAll_1 : decode b_SE_openAll 1 = .ok (.istore_n 1, 1) := by decide +kernel
theorem d_SE_openAll_2 : decode b_SE_openAll 2 = .ok (.iload_n 1, 1) := by decide +kernel
theorem d_SE_openAll_3 : decode b_SE_openAll 3 = .ok (.aload_n 0, 1) := by decide +kernel
theorem d_SE_openAll_4 : decode b_SE_openAll 4 = .ok (.getfield 47, 3) := by decide +kernel
theorem d_SE_openAll_7 : decode b_SE_openAll 7 = .ok (.getfield 55, 3) := by decide +kernel
theorem d_SE_openAll_10 : decode b_SE_openAll 10 = .ok (.if_icmp .ge 24, 3) := by decide +kernel
theorem d_SE_openAll_13 : decode b_SE_openAll 13 = .ok (.aload_n 0, 1) := by decide +kernel
theorem d_SE_openAll_14 : decode b_SE_openAll 14 = .ok (.getfield 11, 3) := by decide +kernel
theorem d_SE_openAll_17 : decode b_SE_openAll 17 = .ok (.iload_n 1, 1) := by decide +kernel
theorem d_SE_openAll_18 : decode b_SE_openAll 18 = .ok (.aload_n 0, 1) := by decide +kernel
theorem d_SE_openAll_19 : decode b_SE_openAll 19 = .ok (.getfield 47, 3) := by decide +kernel
theorem d_SE_openAll_22 : decode b_SE_openAll 22 = .ok (.getfield 60, 3) := by decide +kernel
theorem d_SE_openAll_25 : decode b_SE_openAll 25 = .ok (.iload_n 1, 1) := by decide +kernel
theorem d_SE_openAll_26 : decode b_SE_openAll 26 = .ok (.baload, 1) := by decide +kernel
theorem d_SE_openAll_27 : decode b_SE_openAll 27 = .ok (.bastore, 1) := by decide +kernel
theorem d_SE_openAll_28 : decode b_SE_openAll 28 = .ok (.iinc 1 1, 3) := by decide +kernel
theorem d_SE_openAll_31 : decode b_SE_openAll 31 = .ok (.goto (-29), 3) := by decide +kernel
theorem d_SE_openAll_34 : decode b_SE_openAll 34 = .ok (.iconst 0, 1) := by decide +kernel
theorem d_SE_openAll_35 : decode b_SE_openAll 35 = .ok (.istore_n 1, 1) := by decide +kernel
theorem d_SE_openAll_36 : decode b_SE_openAll 36 = .ok (.iload_n 1, 1) := by decide +kernel
theorem d_SE_openAll_37 : decode b_SE_openAll 37 = .ok (.aload_n 0, 1) := by decide +kernel
theorem d_SE_openAll_38 : decode b_SE_openAll 38 = .ok (.getfield 51, 3) := by decide +kernel
theorem d_SE_openAll_41 : decode b_SE_openAll 41 = .ok (.getfield 63, 3) := by decide +kernel
theorem d_SE_openAll_44 : decode b_SE_openAll 44 = .ok (.if_icmp .ge 62, 3) := by decide +kernel
theorem d_SE_openAll_47 : decode b_SE_openAll 47 = .ok (.aload_n 0, 1) := by decide +kernel
theorem d_SE_openAll_48 : decode b_SE_openAll 48 = .ok (.getfield 17, 3) := by decide +kernel
theorem d_SE_openAll_51 : decode b_SE_openAll 51 = .ok (.iload_n 1, 1) := by decide +kernel
theorem d_SE_openAll_52 : decode b_SE_openAll 52 = .ok (.aload_n 0, 1) := by decide +kernel
theorem d_SE_openAll_53 : decode b_SE_openAll 53 = .ok (.getfield 51, 3) := by decide +kernel
theorem d_SE_openAll_56 : decode b_SE_openAll 56 = .ok (.getfield 66, 3) := by decide +kernel
theorem d_SE_openAll_59 : decode b_SE_openAll 59 = .ok (.iload_n 1, 1) := by decide +kernel
theorem d_SE_openAll_60 : decode b_SE_openAll 60 = .ok (.baload, 1) := by decide +kernel
theorem d_SE_openAll_61 : decode b_SE_openAll 61 = .ok (.bastore, 1) := by decide +kernel
theorem d_SE_openAll_62 : decode b_SE_openAll 62 = .ok (.aload_n 0, 1) := by decide +kernel
theorem d_SE_openAll_63 : decode b_SE_openAll 63 = .ok (.getfield 51, 3) := by decide +kernel
theorem d_SE_openAll_66 : decode b_SE_openAll 66 = .ok (.getfield 66, 3) := by decide +kernel
theorem d_SE_openAll_69 : decode b_SE_openAll 69 = .ok (.iload_n 1, 1) := by decide +kernel
theorem d_SE_openAll_70 : decode b_SE_openAll 70 = .ok (.baload, 1) := by decide +kernel
theorem d_SE_openAll_71 : decode b_SE_openAll 71 = .ok (.ifCond .eq 29, 3) := by decide +kernel
theorem d_SE_openAll_74 : decode b_SE_openAll 74 = .ok (.aload_n 0, 1) := by decide +kernel
theorem d_SE_openAll_75 : decode b_SE_openAll 75 = .ok (.aload_n 0, 1) := by decide +kernel
theorem d_SE_openAll_76 : decode b_SE_openAll 76 = .ok (.getfield 51, 3) := by decide +kernel
theorem d_SE_openAll_79 : decode b_SE_openAll 79 = .ok (.getfield 69, 3) := by decide +kernel
theorem d_SE_openAll_82 : decode b_SE_openAll 82 = .ok (.iload_n 1, 1) := by decide +kernel
theorem d_SE_openAll_83 : decode b_SE_openAll 83 = .ok (.iaload, 1) := by decide +kernel
theorem d_SE_openAll_84 : decode b_SE_openAll 84 = .ok (.invokevirtual 72, 3) := by decide +kernel
theorem d_SE_openAll_87 : decode b_SE_openAll 87 = .ok (.aload_n 0, 1) := by decide +kernel
theorem d_SE_openAll_88 : decode b_SE_openAll 88 = .ok (.aload_n 0, 1) := by decide +kernel
theorem d_SE_openAll_89 : decode b_SE_openAll 89 = .ok (.getfield 51, 3) := by decide +kernel
theorem d_SE_openAll_92 : decode b_SE_openAll 92 = .ok (.getfield 76, 3) := by decide +kernel
theorem d_SE_openAll_95 : decode b_SE_openAll 95 = .ok (.iload_n 1, 1) := by decide +kernel
theorem d_SE_openAll_96 : decode b_SE_openAll 96 = .ok (.iaload, 1) := by decide +kernel
theorem d_SE_openAll_97 : decode b_SE_openAll 97 = .ok (.invokevirtual 72, 3) := by decide +kernel
theorem d_SE_openAll_100 : decode b_SE_openAll 100 = .ok (.iinc 1 1, 3) := by decide +kernel
theorem d_SE_openAll_103 : decode b_SE_openAll 103 = .ok (.goto (-67), 3) := by decide +kernel
theorem d_SE_openAll_106 : decode b_SE_openAll 106 = .ok (.return_, 1) := by decide +kernel
theorem d_SE_shutUnlessTank_0 : decode b_SE_shutUnlessTank 0 = .ok (.aload_n 0, 1) := by decide +kernel
theorem d_SE_shutUnlessTank_1 : decode b_SE_shutUnlessTank 1 = .ok (.getfield 47, 3) := by decide +kernel
theorem d_SE_shutUnlessTank_4 : decode b_SE_shutUnlessTank 4 = .ok (.iload_n 1, 1) := by decide +kernel
theorem d_SE_shutUnlessTank_5 : decode b_SE_shutUnlessTank 5 = .ok (.invokevirtual 92, 3) := by decide +kernel
theorem d_SE_shutUnlessTank_8 : decode b_SE_shutUnlessTank 8 = .ok (.ifCond .eq 22, 3) := by decide +kernel
theorem d_SE_shutUnlessTank_11 : decode b_SE_shutUnlessTank 11 = .ok (.aload_n 0, 1) := by decide +kernel
theorem d_SE_shutUnlessTank_12 : decode b_SE_shutUnlessTank 12 = .ok (.getfield 47, 3) := by decide +kernel
theorem d_SE_shutUnlessTank_15 : decode b_SE_shutUnlessTank 15 = .ok (.getfield 93, 3) := by decide +kernel
theorem d_SE_shutUnlessTank_18 : decode b_SE_shutUnlessTank 18 = .ok (.iload_n 1, 1) := by decide +kernel
theorem d_SE_shutUnlessTank_19 : decode b_SE_shutUnlessTank 19 = .ok (.iaload, 1) := by decide +kernel
theorem d_SE_shutUnlessTank_20 : decode b_SE_shutUnlessTank 20 = .ok (.ifCond .eq 10, 3) := by decide +kernel
theorem d_SE_shutUnlessTank_23 : decode b_SE_shutUnlessTank 23 = .ok (.aload_n 0, 1) := by decide +kernel
theorem d_SE_shutUnlessTank_24 : decode b_SE_shutUnlessTank 24 = .ok (.getfield 11, 3) := by decide +kernel
theorem d_SE_shutUnlessTank_27 : decode b_SE_shutUnlessTank 27 = .ok (.iload_n 1, 1) := by decide +kernel
theorem d_SE_shutUnlessTank_28 : decode b_SE_shutUnlessTank 28 = .ok (.iconst 1, 1) := by decide +kernel
theorem d_SE_shutUnlessTank_29 : decode b_SE_shutUnlessTank 29 = .ok (.bastore, 1) := by decide +kernel
theorem d_SE_shutUnlessTank_30 : decode b_SE_shutUnlessTank 30 = .ok (.return_, 1) := by decide +kernel
theorem d_SE_leastWay_0 : decode b_SE_leastWay 0 = .ok (.aload_n 0, 1) := by decide +kernel
theorem d_SE_leastWay_1 : decode b_SE_leastWay 1 = .ok (.iload_n 2, 1) := by decide +kernel
theorem d_SE_leastWay_2 : decode b_SE_leastWay 2 = .ok (.invokevirtual 96, 3) := by decide +kernel
theorem d_SE_leastWay_5 : decode b_SE_leastWay 5 = .ok (.aload_n 0, 1) := by decide +kernel
theorem d_SE_leastWay_6 : decode b_SE_leastWay 6 = .ok (.iload_n 2, 1) := by decide +kernel
theorem d_SE_leastWay_7 : decode b_SE_leastWay 7 = .ok (.invokevirtual 99, 3) := by decide +kernel
theorem d_SE_leastWay_10 : decode b_SE_leastWay 10 = .ok (.aload_n 0, 1) := by decide +kernel
theorem d_SE_leastWay_11 : decode b_SE_leastWay 11 = .ok (.getfield 38, 3) := by decide +kernel
theorem d_SE_leastWay_14 : decode b_SE_leastWay 14 = .ok (.iload_n 1, 1) := by decide +kernel
theorem d_SE_leastWay_15 : decode b_SE_leastWay 15 = .ok (.laload, 1) := by decide +kernel
theorem d_SE_leastWay_16 : decode b_SE_leastWay 16 = .ok (.ldc2_w 102, 3) := by decide +kernel
theorem d_SE_leastWay_19 : decode b_SE_leastWay 19 = .ok (.lcmp, 1) := by decide +kernel
theorem d_SE_leastWay_20 : decode b_SE_leastWay 20 = .ok (.ifCond .ne 7, 3) := by decide +kernel
theorem d_SE_leastWay_23 : decode b_SE_leastWay 23 = .ok (.aconst_null, 1) := by decide +kernel
theorem d_SE_leastWay_24 : decode b_SE_leastWay 24 = .ok (.goto 9, 3) := by decide +kernel
theorem d_SE_leastWay_27 : decode b_SE_leastWay 27 = .ok (.aload_n 0, 1) := by decide +kernel
theorem d_SE_leastWay_28 : decode b_SE_leastWay 28 = .ok (.iload_n 1, 1) := by decide +kernel
theorem d_SE_leastWay_29 : decode b_SE_leastWay 29 = .ok (.iload_n 2, 1) := by decide +kernel
theorem d_SE_leastWay_30 : decode b_SE_leastWay 30 = .ok (.invokevirtual 104, 3) := by decide +kernel
theorem d_SE_leastWay_33 : decode b_SE_leastWay 33 = .ok (.areturn, 1) := by decide +kernel
theorem d_SE_layArcs_0 : decode b_SE_layArcs 0 = .ok (.aload_n 0, 1) := by decide +kernel
theorem d_SE_layArcs_1 : decode b_SE_layArcs 1 = .ok (.iconst 0, 1) := by decide +kernel
theorem d_SE_layArcs_2 : decode b_SE_layArcs 2 = .ok (.putfield 34, 3) := by decide +kernel
theorem d_SE_layArcs_5 : decode b_SE_layArcs 5 = .ok (.iconst 0, 1) := by decide +kernel
theorem d_SE_layArcs_6 : decode b_SE_layArcs 6 = .ok (.istore_n 2, 1) := by decide +kernel
theorem d_SE_layArcs_7 : decode b_SE_layArcs 7 = .ok (.iload_n 2, 1) := by decide +kernel
theorem d_SE_layArcs_8 : decode b_SE_layArcs 8 = .ok (.aload_n 0, 1) := by decide +kernel
theorem d_SE_layArcs_9 : decode b_SE_layArcs 9 = .ok (.getfield 51, 3) := by decide +kernel
theorem d_SE_layArcs_12 : decode b_SE_layArcs 12 = .ok (.getfield 63, 3) := by decide +kernel
theorem d_SE_layArcs_15 : decode b_SE_layArcs 15 = .ok (.if_icmp .ge 66, 3) := by decide +kernel
theorem d_SE_layArcs_18 : decode b_SE_layArcs 18 = .ok (.aload_n 0, 1) := by decide +kernel
theorem d_SE_layArcs_19 : decode b_SE_layArcs 19 = .ok (.getfield 17, 3) := by decide +kernel
theorem d_SE_layArcs_22 : decode b_SE_layArcs 22 = .ok (.iload_n 2, 1) := by decide +kernel
theorem d_SE_layArcs_23 : decode b_SE_layArcs 23 = .ok (.baload, 1) := by decide +kernel
theorem d_SE_layArcs_24 : decode b_SE_layArcs 24 = .ok (.ifCond .ne 51, 3) := by decide +kernel
theorem d_SE_layArcs_27 : decode b_SE_layArcs 27 = .ok (.aload_n 0, 1) := by decide +kernel
theorem d_SE_layArcs_28 : decode b_SE_layArcs 28 = .ok (.iload_n 2, 1) := by decide +kernel
theorem d_SE_layArcs_29 : decode b_SE_layArcs 29 = .ok (.aload_n 0, 1) := by decide +kernel
theorem d_SE_layArcs_30 : decode b_SE_layArcs 30 = .ok (.getfield 51, 3) := by decide +kernel
theorem d_SE_layArcs_33 : decode b_SE_layArcs 33 = .ok (.getfield 69, 3) := by decide +kernel
theorem d_SE_layArcs_36 : decode b_SE_layArcs 36 = .ok (.iload_n 2, 1) := by decide +kernel
theorem d_SE_layArcs_37 : decode b_SE_layArcs 37 = .ok (.iaload, 1) := by decide +kernel
theorem d_SE_layArcs_38 : decode b_SE_layArcs 38 = .ok (.aload_n 0, 1) := by decide +kernel
theorem d_SE_layArcs_39 : decode b_SE_layArcs 39 = .ok (.getfield 51, 3) := by decide +kernel
theorem d_SE_layArcs_42 : decode b_SE_layArcs 42 = .ok (.getfield 76, 3) := by decide +kernel
theorem d_SE_layArcs_45 : decode b_SE_layArcs 45 = .ok (.iload_n 2, 1) := by decide +kernel
theorem d_SE_layArcs_46 : decode b_SE_layArcs 46 = .ok (.iaload, 1) := by decide +kernel
theorem d_SE_layArcs_47 : decode b_SE_layArcs 47 = .ok (.iload_n 1, 1) := by decide +kernel
theorem d_SE_layArcs_48 : decode b_SE_layArcs 48 = .ok (.invokevirtual 108, 3) := by decide +kernel
theorem d_SE_layArcs_51 : decode b_SE_layArcs 51 = .ok (.aload_n 0, 1) := by decide +kernel
theorem d_SE_layArcs_52 : decode b_SE_layArcs 52 = .ok (.iload_n 2, 1) := by decide +kernel
theorem d_SE_layArcs_53 : decode b_SE_layArcs 53 = .ok (.aload_n 0, 1) := by decide +kernel
theorem d_SE_layArcs_54 : decode b_SE_layArcs 54 = .ok (.getfield 51, 3) := by decide +kernel
theorem d_SE_layArcs_57 : decode b_SE_layArcs 57 = .ok (.getfield 76, 3) := by decide +kernel
theorem d_SE_layArcs_60 : decode b_SE_layArcs 60 = .ok (.iload_n 2, 1) := by decide +kernel
theorem d_SE_layArcs_61 : decode b_SE_layArcs 61 = .ok (.iaload, 1) := by decide +kernel
theorem d_SE_layArcs_62 : decode b_SE_layArcs 62 = .ok (.aload_n 0, 1) := by decide +kernel
theorem d_SE_layArcs_63 : decode b_SE_layArcs 63 = .ok (.getfield 51, 3) := by decide +kernel
theorem d_SE_layArcs_66 : decode b_SE_layArcs 66 = .ok (.getfield 69, 3) := by decide +kernel
theorem d_SE_layArcs_69 : decode b_SE_layArcs 69 = .ok (.iload_n 2, 1) := by decide +kernel
theorem d_SE_layArcs_70 : decode b_SE_layArcs 70 = .ok (.iaload, 1) := by decide +kernel
theorem d_SE_layArcs_71 : decode b_SE_layArcs 71 = .ok (.iload_n 1, 1) := by decide +kernel
theorem d_SE_layArcs_72 : decode b_SE_layArcs 72 = .ok (.invokevirtual 108, 3) := by decide +kernel
theorem d_SE_layArcs_75 : decode b_SE_layArcs 75 = .ok (.iinc 2 1, 3) := by decide +kernel
theorem d_SE_layArcs_78 : decode b_SE_layArcs 78 = .ok (.goto (-71), 3) := by decide +kernel
theorem d_SE_layArcs_81 : decode b_SE_layArcs 81 = .ok (.return_, 1) := by decide +kernel
theorem d_SE_layArc_0 : decode b_SE_layArc 0 = .ok (.aload_n 0, 1) := by decide +kernel
theorem d_SE_layArc_1 : decode b_SE_layArc 1 = .ok (.getfield 11, 3) := by decide +kernel
theorem d_SE_layArc_4 : decode b_SE_layArc 4 = .ok (.iload_n 2, 1) := by decide +kernel
theorem d_SE_layArc_5 : decode b_SE_layArc 5 = .ok (.baload, 1) := by decide +kernel
theorem d_SE_layArc_6 : decode b_SE_layArc 6 = .ok (.ifCond .ne 12, 3) := by decide +kernel
theorem d_SE_layArc_9 : decode b_SE_layArc 9 = .ok (.aload_n 0, 1) := by decide +kernel
theorem d_SE_layArc_10 : decode b_SE_layArc 10 = .ok (.getfield 11, 3) := by decide +kernel
theorem d_SE_layArc_13 : decode b_SE_layArc 13 = .ok (.iload_n 3, 1) := by decide +kernel
theorem d_SE_layArc_14 : decode b_SE_layArc 14 = .ok (.baload, 1) := by decide +kernel
theorem d_SE_layArc_15 : decode b_SE_layArc 15 = .ok (.ifCond .eq 7, 3) := by decide +kernel
theorem d_SE_layArc_18 : decode b_SE_layArc 18 = .ok (.iconst 1, 1) := by decide +kernel
theorem d_SE_layArc_19 : decode b_SE_layArc 19 = .ok (.goto 4, 3) := by decide +kernel
theorem d_SE_layArc_22 : decode b_SE_layArc 22 = .ok (.iconst 0, 1) := by decide +kernel
theorem d_SE_layArc_23 : decode b_SE_layArc 23 = .ok (.istore 5, 2) := by decide +kernel
theorem d_SE_layArc_25 : decode b_SE_layArc 25 = .ok (.aload_n 0, 1) := by decide +kernel
theorem d_SE_layArc_26 : decode b_SE_layArc 26 = .ok (.getfield 47, 3) := by decide +kernel
theorem d_SE_layArc_29 : decode b_SE_layArc 29 = .ok (.getfield 93, 3) := by decide +kernel
theorem d_SE_layArc_32 : decode b_SE_layArc 32 = .ok (.iload_n 3, 1) := by decide +kernel
theorem d_SE_layArc_33 : decode b_SE_layArc 33 = .ok (.iaload, 1) := by decide +kernel
theorem d_SE_layArc_34 : decode b_SE_layArc 34 = .ok (.ifCond .ne 13, 3) := by decide +kernel
theorem d_SE_layArc_37 : decode b_SE_layArc 37 = .ok (.iload_n 3, 1) := by decide +kernel
theorem d_SE_layArc_38 : decode b_SE_layArc 38 = .ok (.iload 4, 2) := by decide +kernel
theorem d_SE_layArc_40 : decode b_SE_layArc 40 = .ok (.if_icmp .eq 7, 3) := by decide +kernel
theorem d_SE_layArc_43 : decode b_SE_layArc 43 = .ok (.iconst 1, 1) := by decide +kernel
theorem d_SE_layArc_44 : decode b_SE_layArc 44 = .ok (.goto 4, 3) := by decide +kernel
theorem d_SE_layArc_47 : decode b_SE_layArc 47 = .ok (.iconst 0, 1) := by decide +kernel
theorem d_SE_layArc_48 : decode b_SE_layArc 48 = .ok (.istore 6, 2) := by decide +kernel
theorem d_SE_layArc_50 : decode b_SE_layArc 50 = .ok (.iload 5, 2) := by decide +kernel
theorem d_SE_layArc_52 : decode b_SE_layArc 52 = .ok (.ifCond .ne 30, 3) := by decide +kernel
theorem d_SE_layArc_55 : decode b_SE_layArc 55 = .ok (.iload 6, 2) := by decide +kernel
theorem d_SE_layArc_57 : decode b_SE_layArc 57 = .ok (.ifCond .ne 25, 3) := by decide +kernel
theorem d_SE_layArc_60 : decode b_SE_layArc 60 = .ok (.aload_n 0, 1) := by decide +kernel
theorem d_SE_layArc_61 : decode b_SE_layArc 61 = .ok (.getfield 47, 3) := by decide +kernel
theorem d_SE_layArc_64 : decode b_SE_layArc 64 = .ok (.iload_n 2, 1) := by decide +kernel
theorem d_SE_layArc_65 : decode b_SE_layArc 65 = .ok (.iload_n 3, 1) := by decide +kernel
theorem d_SE_layArc_66 : decode b_SE_layArc 66 = .ok (.invokevirtual 112, 3) := by decide +kernel
theorem d_SE_layArc_69 : decode b_SE_layArc 69 = .ok (.ifCond .eq 13, 3) := by decide +kernel
theorem d_SE_layArc_72 : decode b_SE_layArc 72 = .ok (.aload_n 0, 1) := by decide +kernel
theorem d_SE_layArc_73 : decode b_SE_layArc 73 = .ok (.getfield 34, 3) := by decide +kernel
theorem d_SE_layArc_76 : decode b_SE_layArc 76 = .ok (.sipush 192, 3) := by decide +kernel
theorem d_SE_layArc_79 : decode b_SE_layArc 79 = .ok (.if_icmp .lt 4, 3) := by decide +kernel
theorem d_SE_layArc_82 : decode b_SE_layArc 82 = .ok (.return_, 1) := by decide +kernel
theorem d_SE_layArc_83 : decode b_SE_layArc 83 = .ok (.aload_n 0, 1) := by decide +kernel
theorem d_SE_layArc_84 : decode b_SE_layArc 84 = .ok (.getfield 47, 3) := by decide +kernel
theorem d_SE_layArc_87 : decode b_SE_layArc 87 = .ok (.getfield 93, 3) := by decide +kernel
theorem d_SE_layArc_90 : decode b_SE_layArc 90 = .ok (.iload_n 3, 1) := by decide +kernel
theorem d_SE_layArc_91 : decode b_SE_layArc 91 = .ok (.iaload, 1) := by decide +kernel
theorem d_SE_layArc_92 : decode b_SE_layArc 92 = .ok (.iconst 2, 1) := by decide +kernel
theorem d_SE_layArc_93 : decode b_SE_layArc 93 = .ok (.if_icmp .ne 7, 3) := by decide +kernel
theorem d_SE_layArc_96 : decode b_SE_layArc 96 = .ok (.lconst 1, 1) := by decide +kernel
theorem d_SE_layArc_97 : decode b_SE_layArc 97 = .ok (.goto 4, 3) := by decide +kernel
theorem d_SE_layArc_100 : decode b_SE_layArc 100 = .ok (.lconst 0, 1) := by decide +kernel
theorem d_SE_layArc_101 : decode b_SE_layArc 101 = .ok (.lstore 7, 2) := by decide +kernel
theorem d_SE_layArc_103 : decode b_SE_layArc 103 = .ok (.aload_n 0, 1) := by decide +kernel
theorem d_SE_layArc_104 : decode b_SE_layArc 104 = .ok (.getfield 20, 3) := by decide +kernel
theorem d_SE_layArc_107 : decode b_SE_layArc 107 = .ok (.aload_n 0, 1) := by decide +kernel
theorem d_SE_layArc_108 : decode b_SE_layArc 108 = .ok (.getfield 34, 3) := by decide +kernel
theorem d_SE_layArc_111 : decode b_SE_layArc 111 = .ok (.iload_n 1, 1) := by decide +kernel
theorem d_SE_layArc_112 : decode b_SE_layArc 112 = .ok (.iastore, 1) := by decide +kernel
theorem d_SE_layArc_113 : decode b_SE_layArc 113 = .ok (.aload_n 0, 1) := by decide +kernel
theorem d_SE_layArc_114 : decode b_SE_layArc 114 = .ok (.getfield 24, 3) := by decide +kernel
theorem d_SE_layArc_117 : decode b_SE_layArc 117 = .ok (.aload_n 0, 1) := by decide +kernel
theorem d_SE_layArc_118 : decode b_SE_layArc 118 = .ok (.getfield 34, 3) := by decide +kernel
theorem d_SE_layArc_121 : decode b_SE_layArc 121 = .ok (.iload_n 2, 1) := by decide +kernel
theorem d_SE_layArc_122 : decode b_SE_layArc 122 = .ok (.iastore, 1) := by decide +kernel
theorem d_SE_layArc_123 : decode b_SE_layArc 123 = .ok (.aload_n 0, 1) := by decide +kernel
theorem d_SE_layArc_124 : decode b_SE_layArc 124 = .ok (.getfield 27, 3) := by decide +kernel
theorem d_SE_layArc_127 : decode b_SE_layArc 127 = .ok (.aload_n 0, 1) := by decide +kernel
theorem d_SE_layArc_128 : decode b_SE_layArc 128 = .ok (.getfield 34, 3) := by decide +kernel
theorem d_SE_layArc_131 : decode b_SE_layArc 131 = .ok (.iload_n 3, 1) := by decide +kernel
theorem d_SE_layArc_132 : decode b_SE_layArc 132 = .ok (.iastore, 1) := by decide +kernel
theorem d_SE_layArc_133 : decode b_SE_layArc 133 = .ok (.aload_n 0, 1) := by decide +kernel
theorem d_SE_layArc_134 : decode b_SE_layArc 134 = .ok (.getfield 30, 3) := by decide +kernel
theorem d_SE_layArc_137 : decode b_SE_layArc 137 = .ok (.aload_n 0, 1) := by decide +kernel
theorem d_SE_layArc_138 : decode b_SE_layArc 138 = .ok (.getfield 34, 3) := by decide +kernel
theorem d_SE_layArc_141 : decode b_SE_layArc 141 = .ok (.aload_n 0, 1) := by decide +kernel
theorem d_SE_layArc_142 : decode b_SE_layArc 142 = .ok (.getfield 51, 3) := by decide +kernel
theorem d_SE_layArc_145 : decode b_SE_layArc 145 = .ok (.getfield 116, 3) := by decide +kernel
theorem d_SE_layArc_148 : decode b_SE_layArc 148 = .ok (.iload_n 1, 1) := by decide +kernel
theorem d_SE_layArc_149 : decode b_SE_layArc 149 = .ok (.laload, 1) := by decide +kernel
theorem d_SE_layArc_150 : decode b_SE_layArc 150 = .ok (.ldc2_w 119, 3) := by decide +kernel
theorem d_SE_layArc_153 : decode b_SE_layArc 153 = .ok (.lmul, 1) := by decide +kernel
theorem d_SE_layArc_154 : decode b_SE_layArc 154 = .ok (.lload 7, 2) := by decide +kernel
theorem d_SE_layArc_156 : decode b_SE_layArc 156 = .ok (.ladd, 1) := by decide +kernel
theorem d_SE_layArc_157 : decode b_SE_layArc 157 = .ok (.lastore, 1) := by decide +kernel
theorem d_SE_layArc_158 : decode b_SE_layArc 158 = .ok (.aload_n 0, 1) := by decide +kernel
theorem d_SE_layArc_159 : decode b_SE_layArc 159 = .ok (.dup, 1) := by decide +kernel
theorem d_SE_layArc_160 : decode b_SE_layArc 160 = .ok (.getfield 34, 3) := by decide +kernel
theorem d_SE_layArc_163 : decode b_SE_layArc 163 = .ok (.iconst 1, 1) := by decide +kernel
theorem d_SE_layArc_164 : decode b_SE_layArc 164 = .ok (.iadd, 1) := by decide +kernel
theorem d_SE_layArc_165 : decode b_SE_layArc 165 = .ok (.putfield 34, 3) := by decide +kernel
theorem d_SE_layArc_168 : decode b_SE_layArc 168 = .ok (.return_, 1) := by decide +kernel
theorem d_TH_letFlow_0 : decode b_TH_letFlow 0 = .ok (.aload_n 0, 1) := by decide +kernel
theorem d_TH_letFlow_1 : decode b_TH_letFlow 1 = .ok (.getfield 9, 3) := by decide +kernel
theorem d_TH_letFlow_4 : decode b_TH_letFlow 4 = .ok (.iload_n 1, 1) := by decide +kernel
theorem d_TH_letFlow_5 : decode b_TH_letFlow 5 = .ok (.iaload, 1) := by decide +kernel
theorem d_TH_letFlow_6 : decode b_TH_letFlow 6 = .ok (.iconst 1, 1) := by decide +kernel
theorem d_TH_letFlow_7 : decode b_TH_letFlow 7 = .ok (.if_icmp .ne 13, 3) := by decide +kernel
theorem d_TH_letFlow_10 : decode b_TH_letFlow 10 = .ok (.aload_n 0, 1) := by decide +kernel
theorem d_TH_letFlow_11 : decode b_TH_letFlow 11 = .ok (.getfield 25, 3) := by decide +kernel
theorem d_TH_letFlow_14 : decode b_TH_letFlow 14 = .ok (.iload_n 1, 1) := by decide +kernel
theorem d_TH_letFlow_15 : decode b_TH_letFlow 15 = .ok (.iaload, 1) := by decide +kernel
theorem d_TH_letFlow_16 : decode b_TH_letFlow 16 = .ok (.iload_n 2, 1) := by decide +kernel
theorem d_TH_letFlow_17 : decode b_TH_letFlow 17 = .ok (.if_icmp .ne 7, 3) := by decide +kernel
theorem d_TH_letFlow_20 : decode b_TH_letFlow 20 = .ok (.iconst 1, 1) := by decide +kernel
theorem d_TH_letFlow_21 : decode b_TH_letFlow 21 = .ok (.goto 4, 3) := by decide +kernel
theorem d_TH_letFlow_24 : decode b_TH_letFlow 24 = .ok (.iconst 0, 1) := by decide +kernel
theorem d_TH_letFlow_25 : decode b_TH_letFlow 25 = .ok (.istore_n 3, 1) := by decide +kernel
theorem d_TH_letFlow_26 : decode b_TH_letFlow 26 = .ok (.aload_n 0, 1) := by decide +kernel
theorem d_TH_letFlow_27 : decode b_TH_letFlow 27 = .ok (.getfield 9, 3) := by decide +kernel
theorem d_TH_letFlow_30 : decode b_TH_letFlow 30 = .ok (.iload_n 2, 1) := by decide +kernel
theorem d_TH_letFlow_31 : decode b_TH_letFlow 31 = .ok (.iaload, 1) := by decide +kernel
theorem d_TH_letFlow_32 : decode b_TH_letFlow 32 = .ok (.iconst 1, 1) := by decide +kernel
theorem d_TH_letFlow_33 : decode b_TH_letFlow 33 = .ok (.if_icmp .ne 13, 3) := by decide +kernel
theorem d_TH_letFlow_36 : decode b_TH_letFlow 36 = .ok (.aload_n 0, 1) := by decide +kernel
theorem d_TH_letFlow_37 : decode b_TH_letFlow 37 = .ok (.getfield 22, 3) := by decide +kernel
theorem d_TH_letFlow_40 : decode b_TH_letFlow 40 = .ok (.iload_n 2, 1) := by decide +kernel
theorem d_TH_letFlow_41 : decode b_TH_letFlow 41 = .ok (.iaload, 1) := by decide +kernel
theorem d_TH_letFlow_42 : decode b_TH_letFlow 42 = .ok (.iload_n 1, 1) := by decide +kernel
theorem d_TH_letFlow_43 : decode b_TH_letFlow 43 = .ok (.if_icmp .ne 7, 3) := by decide +kernel
theorem d_TH_letFlow_46 : decode b_TH_letFlow 46 = .ok (.iconst 1, 1) := by decide +kernel
theorem d_TH_letFlow_47 : decode b_TH_letFlow 47 = .ok (.goto 4, 3) := by decide +kernel
theorem d_TH_letFlow_50 : decode b_TH_letFlow 50 = .ok (.iconst 0, 1) := by decide +kernel
theorem d_TH_letFlow_51 : decode b_TH_letFlow 51 = .ok (.istore 4, 2) := by decide +kernel
theorem d_TH_letFlow_53 : decode b_TH_letFlow 53 = .ok (.iload_n 3, 1) := by decide +kernel
theorem d_TH_letFlow_54 : decode b_TH_letFlow 54 = .ok (.ifCond .eq 12, 3) := by decide +kernel
theorem d_TH_letFlow_57 : decode b_TH_letFlow 57 = .ok (.iload 4, 2) := by decide +kernel
theorem d_TH_letFlow_59 : decode b_TH_letFlow 59 = .ok (.ifCond .eq 7, 3) := by decide +kernel
theorem d_TH_letFlow_62 : decode b_TH_letFlow 62 = .ok (.iconst 1, 1) := by decide +kernel
theorem d_TH_letFlow_63 : decode b_TH_letFlow 63 = .ok (.goto 4, 3) := by decide +kernel
theorem d_TH_letFlow_66 : decode b_TH_letFlow 66 = .ok (.iconst 0, 1) := by decide +kernel
theorem d_TH_letFlow_67 : decode b_TH_letFlow 67 = .ok (.ireturn, 1) := by decide +kernel
theorem d_SE_reckonCostsTo_0 : decode b_SE_reckonCostsTo 0 = .ok (.aload_n 0, 1) := by decide +kernel
theorem d_SE_reckonCostsTo_1 : decode b_SE_reckonCostsTo 1 = .ok (.getfield 38, 3) := by decide +kernel
theorem d_SE_reckonCostsTo_4 : decode b_SE_reckonCostsTo 4 = .ok (.ldc2_w 102, 3) := by decide +kernel
theorem d_SE_reckonCostsTo_7 : decode b_SE_reckonCostsTo 7 = .ok (.invokestatic 121, 3) := by decide +kernel
theorem d_SE_reckonCostsTo_10 : decode b_SE_reckonCostsTo 10 = .ok (.aload_n 0, 1) := by decide +kernel
theorem d_SE_reckonCostsTo_11 : decode b_SE_reckonCostsTo 11 = .ok (.getfield 38, 3) := by decide +kernel
theorem d_SE_reckonCostsTo_14 : decode b_SE_reckonCostsTo 14 = .ok (.iload_n 1, 1) := by decide +kernel
theorem d_SE_reckonCostsTo_15 : decode b_SE_reckonCostsTo 15 = .ok (.lconst 0, 1) := by decide +kernel
theorem d_SE_reckonCostsTo_16 : decode b_SE_reckonCostsTo 16 = .ok (.lastore, 1) := by decide +kernel
theorem d_SE_reckonCostsTo_17 : decode b_SE_reckonCostsTo 17 = .ok (.iconst 1, 1) := by decide +kernel
theorem d_SE_reckonCostsTo_18 : decode b_SE_reckonCostsTo 18 = .ok (.istore_n 2, 1) := by decide +kernel
theorem d_SE_reckonCostsTo_19 : decode b_SE_reckonCostsTo 19 = .ok (.iconst 0, 1) := by decide +kernel
theorem d_SE_reckonCostsTo_20 : decode b_SE_reckonCostsTo 20 = .ok (.istore_n 3, 1) := by decide +kernel
theorem d_SE_reckonCostsTo_21 : decode b_SE_reckonCostsTo 21 = .ok (.iload_n 3, 1) := by decide +kernel
theorem d_SE_reckonCostsTo_22 : decode b_SE_reckonCostsTo 22 = .ok (.bipush 48, 2) := by decide +kernel
theorem d_SE_reckonCostsTo_24 : decode b_SE_reckonCostsTo 24 = .ok (.if_icmp .ge 18, 3) := by decide +kernel
theorem d_SE_reckonCostsTo_27 : decode b_SE_reckonCostsTo 27 = .ok (.iload_n 2, 1) := by decide +kernel
theorem d_SE_reckonCostsTo_28 : decode b_SE_reckonCostsTo 28 = .ok (.ifCond .eq 14, 3) := by decide +kernel
theorem d_SE_reckonCostsTo_31 : decode b_SE_reckonCostsTo 31 = .ok (.aload_n 0, 1) := by decide +kernel
theorem d_SE_reckonCostsTo_32 : decode b_SE_reckonCostsTo 32 = .ok (.invokevirtual 127, 3) := by decide +kernel
theorem d_SE_reckonCostsTo_35 : decode b_SE_reckonCostsTo 35 = .ok (.istore_n 2, 1) := by decide +kernel
theorem d_SE_reckonCostsTo_36 : decode b_SE_reckonCostsTo 36 = .ok (.iinc 3 1, 3) := by decide +kernel
theorem d_SE_reckonCostsTo_39 : decode b_SE_reckonCostsTo 39 = .ok (.goto (-18), 3) := by decide +kernel
theorem d_SE_reckonCostsTo_42 : decode b_SE_reckonCostsTo 42 = .ok (.return_, 1) := by decide +kernel
theorem d_AR_fill_0 : decode b_AR_fill 0 = .ok (.iconst 0, 1) := by decide +kernel
theorem d_AR_fill_1 : decode b_AR_fill 1 = .ok (.istore_n 3, 1) := by decide +kernel
theorem d_AR_fill_2 : decode b_AR_fill 2 = .ok (.aload_n 0, 1) := by decide +kernel
theorem d_AR_fill_3 : decode b_AR_fill 3 = .ok (.arraylength, 1) := by decide +kernel
theorem d_AR_fill_4 : decode b_AR_fill 4 = .ok (.istore 4, 2) := by decide +kernel
theorem d_AR_fill_6 : decode b_AR_fill 6 = .ok (.iload_n 3, 1) := by decide +kernel
theorem d_AR_fill_7 : decode b_AR_fill 7 = .ok (.iload 4, 2) := by decide +kernel
theorem d_AR_fill_9 : decode b_AR_fill 9 = .ok (.if_icmp .ge 13, 3) := by decide +kernel
theorem d_AR_fill_12 : decode b_AR_fill 12 = .ok (.aload_n 0, 1) := by decide +kernel
theorem d_AR_fill_13 : decode b_AR_fill 13 = .ok (.iload_n 3, 1) := by decide +kernel
theorem d_AR_fill_14 : decode b_AR_fill 14 = .ok (.lload_n 1, 1) := by decide +kernel
theorem d_AR_fill_15 : decode b_AR_fill 15 = .ok (.lastore, 1) := by decide +kernel
theorem d_AR_fill_16 : decode b_AR_fill 16 = .ok (.iinc 3 1, 3) := by decide +kernel
theorem d_AR_fill_19 : decode b_AR_fill 19 = .ok (.goto (-13), 3) := by decide +kernel
theorem d_AR_fill_22 : decode b_AR_fill 22 = .ok (.return_, 1) := by decide +kernel
theorem d_SE_lowerCosts_0 : decode b_SE_lowerCosts 0 = .ok (.iconst 0, 1) := by decide +kernel
theorem d_SE_lowerCosts_1 : decode b_SE_lowerCosts 1 = .ok (.istore_n 1, 1) := by decide +kernel
theorem d_SE_lowerCosts_2 : decode b_SE_lowerCosts 2 = .ok (.iconst 0, 1) := by decide +kernel
theorem d_SE_lowerCosts_3 : decode b_SE_lowerCosts 3 = .ok (.istore_n 2, 1) := by decide +kernel
theorem d_SE_lowerCosts_4 : decode b_SE_lowerCosts 4 = .ok (.iload_n 2, 1) := by decide +kernel
theorem d_SE_lowerCosts_5 : decode b_SE_lowerCosts 5 = .ok (.aload_n 0, 1) := by decide +kernel
theorem d_SE_lowerCosts_6 : decode b_SE_lowerCosts 6 = .ok (.getfield 34, 3) := by decide +kernel
theorem d_SE_lowerCosts_9 : decode b_SE_lowerCosts 9 = .ok (.if_icmp .ge 73, 3) := by decide +kernel
theorem d_SE_lowerCosts_12 : decode b_SE_lowerCosts 12 = .ok (.aload_n 0, 1) := by decide +kernel
theorem d_SE_lowerCosts_13 : decode b_SE_lowerCosts 13 = .ok (.getfield 38, 3) := by decide +kernel
theorem d_SE_lowerCosts_16 : decode b_SE_lowerCosts 16 = .ok (.aload_n 0, 1) := by decide +kernel
theorem d_SE_lowerCosts_17 : decode b_SE_lowerCosts 17 = .ok (.getfield 27, 3) := by decide +kernel
theorem d_SE_lowerCosts_20 : decode b_SE_lowerCosts 20 = .ok (.iload_n 2, 1) := by decide +kernel
theorem d_SE_lowerCosts_21 : decode b_SE_lowerCosts 21 = .ok (.iaload, 1) := by decide +kernel
theorem d_SE_lowerCosts_22 : decode b_SE_lowerCosts 22 = .ok (.laload, 1) := by decide +kernel
theorem d_SE_lowerCosts_23 : decode b_SE_lowerCosts 23 = .ok (.lstore_n 3, 1) := by decide +kernel
theorem d_SE_lowerCosts_24 : decode b_SE_lowerCosts 24 = .ok (.lload_n 3, 1) := by decide +kernel
theorem d_SE_lowerCosts_25 : decode b_SE_lowerCosts 25 = .ok (.ldc2_w 102, 3) := by decide +kernel
theorem d_SE_lowerCosts_28 : decode b_SE_lowerCosts 28 = .ok (.lcmp, 1) := by decide +kernel
theorem d_SE_lowerCosts_29 : decode b_SE_lowerCosts 29 = .ok (.ifCond .eq 47, 3) := by decide +kernel
theorem d_SE_lowerCosts_32 : decode b_SE_lowerCosts 32 = .ok (.lload_n 3, 1) := by decide +kernel
theorem d_SE_lowerCosts_33 : decode b_SE_lowerCosts 33 = .ok (.aload_n 0, 1) := by decide +kernel
theorem d_SE_lowerCosts_34 : decode b_SE_lowerCosts 34 = .ok (.getfield 30, 3) := by decide +kernel
theorem d_SE_lowerCosts_37 : decode b_SE_lowerCosts 37 = .ok (.iload_n 2, 1) := by decide +kernel
theorem d_SE_lowerCosts_38 : decode b_SE_lowerCosts 38 = .ok (.laload, 1) := by decide +kernel
theorem d_SE_lowerCosts_39 : decode b_SE_lowerCosts 39 = .ok (.ladd, 1) := by decide +kernel
theorem d_SE_lowerCosts_40 : decode b_SE_lowerCosts 40 = .ok (.aload_n 0, 1) := by decide +kernel
theorem d_SE_lowerCosts_41 : decode b_SE_lowerCosts 41 = .ok (.getfield 38, 3) := by decide +kernel
theorem d_SE_lowerCosts_44 : decode b_SE_lowerCosts 44 = .ok (.aload_n 0, 1) := by decide +kernel
theorem d_SE_lowerCosts_45 : decode b_SE_lowerCosts 45 = .ok (.getfield 24, 3) := by decide +kernel
theorem d_SE_lowerCosts_48 : decode b_SE_lowerCosts 48 = .ok (.iload_n 2, 1) := by decide +kernel
theorem d_SE_lowerCosts_49 : decode b_SE_lowerCosts 49 = .ok (.iaload, 1) := by decide +kernel
theorem d_SE_lowerCosts_50 : decode b_SE_lowerCosts 50 = .ok (.laload, 1) := by decide +kernel
theorem d_SE_lowerCosts_51 : decode b_SE_lowerCosts 51 = .ok (.lcmp, 1) := by decide +kernel
theorem d_SE_lowerCosts_52 : decode b_SE_lowerCosts 52 = .ok (.ifCond .ge 24, 3) := by decide +kernel
theorem d_SE_lowerCosts_55 : decode b_SE_lowerCosts 55 = .ok (.aload_n 0, 1) := by decide +kernel
theorem d_SE_lowerCosts_56 : decode b_SE_lowerCosts 56 = .ok (.getfield 38, 3) := by decide +kernel
theorem d_SE_lowerCosts_59 : decode b_SE_lowerCosts 59 = .ok (.aload_n 0, 1) := by decide +kernel
theorem d_SE_lowerCosts_60 : decode b_SE_lowerCosts 60 = .ok (.getfield 24, 3) := by decide +kernel
theorem d_SE_lowerCosts_63 : decode b_SE_lowerCosts 63 = .ok (.iload_n 2, 1) := by decide +kernel
theorem d_SE_lowerCosts_64 : decode b_SE_lowerCosts 64 = .ok (.iaload, 1) := by decide +kernel
theorem d_SE_lowerCosts_65 : decode b_SE_lowerCosts 65 = .ok (.lload_n 3, 1) := by decide +kernel
theorem d_SE_lowerCosts_66 : decode b_SE_lowerCosts 66 = .ok (.aload_n 0, 1) := by decide +kernel
theorem d_SE_lowerCosts_67 : decode b_SE_lowerCosts 67 = .ok (.getfield 30, 3) := by decide +kernel
theorem d_SE_lowerCosts_70 : decode b_SE_lowerCosts 70 = .ok (.iload_n 2, 1) := by decide +kernel
theorem d_SE_lowerCosts_71 : decode b_SE_lowerCosts 71 = .ok (.laload, 1) := by decide +kernel
theorem d_SE_lowerCosts_72 : decode b_SE_lowerCosts 72 = .ok (.ladd, 1) := by decide +kernel
theorem d_SE_lowerCosts_73 : decode b_SE_lowerCosts 73 = .ok (.lastore, 1) := by decide +kernel
theorem d_SE_lowerCosts_74 : decode b_SE_lowerCosts 74 = .ok (.iconst 1, 1) := by decide +kernel
theorem d_SE_lowerCosts_75 : decode b_SE_lowerCosts 75 = .ok (.istore_n 1, 1) := by decide +kernel
theorem d_SE_lowerCosts_76 : decode b_SE_lowerCosts 76 = .ok (.iinc 2 1, 3) := by decide +kernel
theorem d_SE_lowerCosts_79 : decode b_SE_lowerCosts 79 = .ok (.goto (-75), 3) := by decide +kernel
theorem d_SE_lowerCosts_82 : decode b_SE_lowerCosts 82 = .ok (.iload_n 1, 1) := by decide +kernel
theorem d_SE_lowerCosts_83 : decode b_SE_lowerCosts 83 = .ok (.ireturn, 1) := by decide +kernel
theorem d_SE_followLeast_0 : decode b_SE_followLeast 0 = .ok (.iload_n 1, 1) := by decide +kernel
theorem d_SE_followLeast_1 : decode b_SE_followLeast 1 = .ok (.istore_n 3, 1) := by decide +kernel
theorem d_SE_followLeast_2 : decode b_SE_followLeast 2 = .ok (.iconst 0, 1) := by decide +kernel
theorem d_SE_followLeast_3 : decode b_SE_followLeast 3 = .ok (.istore 4, 2) := by decide +kernel
theorem d_SE_followLeast_5 : decode b_SE_followLeast 5 = .ok (.aload_n 0, 1) := by decide +kernel
theorem d_SE_followLeast_6 : decode b_SE_followLeast 6 = .ok (.getfield 44, 3) := by decide +kernel
theorem d_SE_followLeast_9 : decode b_SE_followLeast 9 = .ok (.iconst 0, 1) := by decide +kernel
theorem d_SE_followLeast_10 : decode b_SE_followLeast 10 = .ok (.iload_n 1, 1) := by decide +kernel
theorem d_SE_followLeast_11 : decode b_SE_followLeast 11 = .ok (.iastore, 1) := by decide +kernel
theorem d_SE_followLeast_12 : decode b_SE_followLeast 12 = .ok (.iload_n 3, 1) := by decide +kernel
theorem d_SE_followLeast_13 : decode b_SE_followLeast 13 = .ok (.iload_n 2, 1) := by decide +kernel
theorem d_SE_followLeast_14 : decode b_SE_followLeast 14 = .ok (.if_icmp .eq 61, 3) := by decide +kernel
theorem d_SE_followLeast_17 : decode b_SE_followLeast 17 = .ok (.iload 4, 2) := by decide +kernel
theorem d_SE_followLeast_19 : decode b_SE_followLeast 19 = .ok (.bipush 47, 2) := by decide +kernel
theorem d_SE_followLeast_21 : decode b_SE_followLeast 21 = .ok (.if_icmp .ge 54, 3) := by decide +kernel
theorem d_SE_followLeast_24 : decode b_SE_followLeast 24 = .ok (.aload_n 0, 1) := by decide +kernel
theorem d_SE_followLeast_25 : decode b_SE_followLeast 25 = .ok (.iload_n 3, 1) := by decide +kernel
theorem d_SE_followLeast_26 : decode b_SE_followLeast 26 = .ok (.invokevirtual 131, 3) := by decide +kernel
theorem d_SE_followLeast_29 : decode b_SE_followLeast 29 = .ok (.istore 5, 2) := by decide +kernel
theorem d_SE_followLeast_31 : decode b_SE_followLeast 31 = .ok (.iload 5, 2) := by decide +kernel
theorem d_SE_followLeast_33 : decode b_SE_followLeast 33 = .ok (.iconst (-1), 1) := by decide +kernel
theorem d_SE_followLeast_34 : decode b_SE_followLeast 34 = .ok (.if_icmp .ne 5, 3) := by decide +kernel
theorem d_SE_followLeast_37 : decode b_SE_followLeast 37 = .ok (.aconst_null, 1) := by decide +kernel
theorem d_SE_followLeast_38 : decode b_SE_followLeast 38 = .ok (.areturn, 1) := by decide +kernel
theorem d_SE_followLeast_39 : decode b_SE_followLeast 39 = .ok (.aload_n 0, 1) := by decide +kernel
theorem d_SE_followLeast_40 : decode b_SE_followLeast 40 = .ok (.getfield 27, 3) := by decide +kernel
theorem d_SE_followLeast_43 : decode b_SE_followLeast 43 = .ok (.iload 5, 2) := by decide +kernel
theorem d_SE_followLeast_45 : decode b_SE_followLeast 45 = .ok (.iaload, 1) := by decide +kernel
theorem d_SE_followLeast_46 : decode b_SE_followLeast 46 = .ok (.istore_n 3, 1) := by decide +kernel
theorem d_SE_followLeast_47 : decode b_SE_followLeast 47 = .ok (.aload_n 0, 1) := by decide +kernel
theorem d_SE_followLeast_48 : decode b_SE_followLeast 48 = .ok (.getfield 41, 3) := by decide +kernel
theorem d_SE_followLeast_51 : decode b_SE_followLeast 51 = .ok (.iload 4, 2) := by decide +kernel
theorem d_SE_followLeast_53 : decode b_SE_followLeast 53 = .ok (.aload_n 0, 1) := by decide +kernel
theorem d_SE_followLeast_54 : decode b_SE_followLeast 54 = .ok (.getfield 20, 3) := by decide +kernel
theorem d_SE_followLeast_57 : decode b_SE_followLeast 57 = .ok (.iload 5, 2) := by decide +kernel
theorem d_SE_followLeast_59 : decode b_SE_followLeast 59 = .ok (.iaload, 1) := by decide +kernel
theorem d_SE_followLeast_60 : decode b_SE_followLeast 60 = .ok (.iastore, 1) := by decide +kernel
theorem d_SE_followLeast_61 : decode b_SE_followLeast 61 = .ok (.iinc 4 1, 3) := by decide +kernel
theorem d_SE_followLeast_64 : decode b_SE_followLeast 64 = .ok (.aload_n 0, 1) := by decide +kernel
theorem d_SE_followLeast_65 : decode b_SE_followLeast 65 = .ok (.getfield 44, 3) := by decide +kernel
theorem d_SE_followLeast_68 : decode b_SE_followLeast 68 = .ok (.iload 4, 2) := by decide +kernel
theorem d_SE_followLeast_70 : decode b_SE_followLeast 70 = .ok (.iload_n 3, 1) := by decide +kernel
theorem d_SE_followLeast_71 : decode b_SE_followLeast 71 = .ok (.iastore, 1) := by decide +kernel
theorem d_SE_followLeast_72 : decode b_SE_followLeast 72 = .ok (.goto (-60), 3) := by decide +kernel
theorem d_SE_followLeast_75 : decode b_SE_followLeast 75 = .ok (.aload_n 0, 1) := by decide +kernel
theorem d_SE_followLeast_76 : decode b_SE_followLeast 76 = .ok (.getfield 38, 3) := by decide +kernel
theorem d_SE_followLeast_79 : decode b_SE_followLeast 79 = .ok (.iload_n 1, 1) := by decide +kernel
theorem d_SE_followLeast_80 : decode b_SE_followLeast 80 = .ok (.laload, 1) := by decide +kernel
theorem d_SE_followLeast_81 : decode b_SE_followLeast 81 = .ok (.ldc2_w 119, 3) := by decide +kernel
theorem d_SE_followLeast_84 : decode b_SE_followLeast 84 = .ok (.ldiv, 1) := by decide +kernel
theorem d_SE_followLeast_85 : decode b_SE_followLeast 85 = .ok (.lstore 5, 2) := by decide +kernel
theorem d_SE_followLeast_87 : decode b_SE_followLeast 87 = .ok (.aload_n 0, 1) := by decide +kernel
theorem d_SE_followLeast_88 : decode b_SE_followLeast 88 = .ok (.getfield 41, 3) := by decide +kernel
theorem d_SE_followLeast_91 : decode b_SE_followLeast 91 = .ok (.iload 4, 2) := by decide +kernel
theorem d_SE_followLeast_93 : decode b_SE_followLeast 93 = .ok (.invokestatic 135, 3) := by decide +kernel
theorem d_SE_followLeast_96 : decode b_SE_followLeast 96 = .ok (.astore 7, 2) := by decide +kernel
theorem d_SE_followLeast_98 : decode b_SE_followLeast 98 = .ok (.aload_n 0, 1) := by decide +kernel
theorem d_SE_followLeast_99 : decode b_SE_followLeast 99 = .ok (.getfield 44, 3) := by decide +kernel
theorem d_SE_followLeast_102 : decode b_SE_followLeast 102 = .ok (.iload 4, 2) := by decide +kernel
theorem d_SE_followLeast_104 : decode b_SE_followLeast 104 = .ok (.iconst 1, 1) := by decide +kernel
theorem d_SE_followLeast_105 : decode b_SE_followLeast 105 = .ok (.iadd, 1) := by decide +kernel
theorem d_SE_followLeast_106 : decode b_SE_followLeast 106 = .ok (.invokestatic 135, 3) := by decide +kernel
theorem d_SE_followLeast_109 : decode b_SE_followLeast 109 = .ok (.astore 8, 2) := by decide +kernel
theorem d_SE_followLeast_111 : decode b_SE_followLeast 111 = .ok (.new 84, 3) := by decide +kernel
theorem d_SE_followLeast_114 : decode b_SE_followLeast 114 = .ok (.dup, 1) := by decide +kernel
theorem d_SE_followLeast_115 : decode b_SE_followLeast 115 = .ok (.iload_n 1, 1) := by decide +kernel
theorem d_SE_followLeast_116 : decode b_SE_followLeast 116 = .ok (.iload_n 2, 1) := by decide +kernel
theorem d_SE_followLeast_117 : decode b_SE_followLeast 117 = .ok (.lload 5, 2) := by decide +kernel
theorem d_SE_followLeast_119 : decode b_SE_followLeast 119 = .ok (.aload 7, 2) := by decide +kernel
theorem d_SE_followLeast_121 : decode b_SE_followLeast 121 = .ok (.aload 8, 2) := by decide +kernel
theorem d_SE_followLeast_123 : decode b_SE_followLeast 123 = .ok (.invokespecial 139, 3) := by decide +kernel
theorem d_SE_followLeast_126 : decode b_SE_followLeast 126 = .ok (.areturn, 1) := by decide +kernel
theorem d_SE_firstLeastArc_0 : decode b_SE_firstLeastArc 0 = .ok (.iconst 0, 1) := by decide +kernel
theorem d_SE_firstLeastArc_1 : decode b_SE_firstLeastArc 1 = .ok (.istore_n 2, 1) := by decide +kernel
theorem d_SE_firstLeastArc_2 : decode b_SE_firstLeastArc 2 = .ok (.iload_n 2, 1) := by decide +kernel
theorem d_SE_firstLeastArc_3 : decode b_SE_firstLeastArc 3 = .ok (.aload_n 0, 1) := by decide +kernel
theorem d_SE_firstLeastArc_4 : decode b_SE_firstLeastArc 4 = .ok (.getfield 34, 3) := by decide +kernel
theorem d_SE_firstLeastArc_7 : decode b_SE_firstLeastArc 7 = .ok (.if_icmp .ge 59, 3) := by decide +kernel
theorem d_SE_firstLeastArc_10 : decode b_SE_firstLeastArc 10 = .ok (.aload_n 0, 1) := by decide +kernel
theorem d_SE_firstLeastArc_11 : decode b_SE_firstLeastArc 11 = .ok (.getfield 38, 3) := by decide +kernel
theorem d_SE_firstLeastArc_14 : decode b_SE_firstLeastArc 14 = .ok (.aload_n 0, 1) := by decide +kernel
theorem d_SE_firstLeastArc_15 : decode b_SE_firstLeastArc 15 = .ok (.getfield 27, 3) := by decide +kernel
theorem d_SE_firstLeastArc_18 : decode b_SE_firstLeastArc 18 = .ok (.iload_n 2, 1) := by decide +kernel
theorem d_SE_firstLeastArc_19 : decode b_SE_firstLeastArc 19 = .ok (.iaload, 1) := by decide +kernel
theorem d_SE_firstLeastArc_20 : decode b_SE_firstLeastArc 20 = .ok (.laload, 1) := by decide +kernel
theorem d_SE_firstLeastArc_21 : decode b_SE_firstLeastArc 21 = .ok (.lstore_n 3, 1) := by decide +kernel
theorem d_SE_firstLeastArc_22 : decode b_SE_firstLeastArc 22 = .ok (.aload_n 0, 1) := by decide +kernel
theorem d_SE_firstLeastArc_23 : decode b_SE_firstLeastArc 23 = .ok (.getfield 24, 3) := by decide +kernel
theorem d_SE_firstLeastArc_26 : decode b_SE_firstLeastArc 26 = .ok (.iload_n 2, 1) := by decide +kernel
theorem d_SE_firstLeastArc_27 : decode b_SE_firstLeastArc 27 = .ok (.iaload, 1) := by decide +kernel
theorem d_SE_firstLeastArc_28 : decode b_SE_firstLeastArc 28 = .ok (.iload_n 1, 1) := by decide +kernel
theorem d_SE_firstLeastArc_29 : decode b_SE_firstLeastArc 29 = .ok (.if_icmp .ne 31, 3) := by decide +kernel
theorem d_SE_firstLeastArc_32 : decode b_SE_firstLeastArc 32 = .ok (.lload_n 3, 1) := by decide +kernel
theorem d_SE_firstLeastArc_33 : decode b_SE_firstLeastArc 33 = .ok (.ldc2_w 102, 3) := by decide +kernel
theorem d_SE_firstLeastArc_36 : decode b_SE_firstLeastArc 36 = .ok (.lcmp, 1) := by decide +kernel
theorem d_SE_firstLeastArc_37 : decode b_SE_firstLeastArc 37 = .ok (.ifCond .eq 23, 3) := by decide +kernel
theorem d_SE_firstLeastArc_40 : decode b_SE_firstLeastArc 40 = .ok (.lload_n 3, 1) := by decide +kernel
theorem d_SE_firstLeastArc_41 : decode b_SE_firstLeastArc 41 = .ok (.aload_n 0, 1) := by decide +kernel
theorem d_SE_firstLeastArc_42 : decode b_SE_firstLeastArc 42 = .ok (.getfield 30, 3) := by decide +kernel
theorem d_SE_firstLeastArc_45 : decode b_SE_firstLeastArc 45 = .ok (.iload_n 2, 1) := by decide +kernel
theorem d_SE_firstLeastArc_46 : decode b_SE_firstLeastArc 46 = .ok (.laload, 1) := by decide +kernel
theorem d_SE_firstLeastArc_47 : decode b_SE_firstLeastArc 47 = .ok (.ladd, 1) := by decide +kernel
theorem d_SE_firstLeastArc_48 : decode b_SE_firstLeastArc 48 = .ok (.aload_n 0, 1) := by decide +kernel
theorem d_SE_firstLeastArc_49 : decode b_SE_firstLeastArc 49 = .ok (.getfield 38, 3) := by decide +kernel
theorem d_SE_firstLeastArc_52 : decode b_SE_firstLeastArc 52 = .ok (.iload_n 1, 1) := by decide +kernel
theorem d_SE_firstLeastArc_53 : decode b_SE_firstLeastArc 53 = .ok (.laload, 1) := by decide +kernel
theorem d_SE_firstLeastArc_54 : decode b_SE_firstLeastArc 54 = .ok (.lcmp, 1) := by decide +kernel
theorem d_SE_firstLeastArc_55 : decode b_SE_firstLeastArc 55 = .ok (.ifCond .ne 5, 3) := by decide +kernel
theorem d_SE_firstLeastArc_58 : decode b_SE_firstLeastArc 58 = .ok (.iload_n 2, 1) := by decide +kernel
theorem d_SE_firstLeastArc_59 : decode b_SE_firstLeastArc 59 = .ok (.ireturn, 1) := by decide +kernel
theorem d_SE_firstLeastArc_60 : decode b_SE_firstLeastArc 60 = .ok (.iinc 2 1, 3) := by decide +kernel
theorem d_SE_firstLeastArc_63 : decode b_SE_firstLeastArc 63 = .ok (.goto (-61), 3) := by decide +kernel
theorem d_SE_firstLeastArc_66 : decode b_SE_firstLeastArc 66 = .ok (.iconst (-1), 1) := by decide +kernel
theorem d_SE_firstLeastArc_67 : decode b_SE_firstLeastArc 67 = .ok (.ireturn, 1) := by decide +kernel
theorem d_AR_copyOf_0 : decode b_AR_copyOf 0 = .ok (.iload_n 1, 1) := by decide +kernel
theorem d_AR_copyOf_1 : decode b_AR_copyOf 1 = .ok (.aload_n 0, 1) := by decide +kernel
theorem d_AR_copyOf_2 : decode b_AR_copyOf 2 = .ok (.arraylength, 1) := by decide +kernel
theorem d_AR_copyOf_3 : decode b_AR_copyOf 3 = .ok (.if_icmp .ne 11, 3) := by decide +kernel
theorem d_AR_copyOf_6 : decode b_AR_copyOf 6 = .ok (.aload_n 0, 1) := by decide +kernel
theorem d_AR_copyOf_7 : decode b_AR_copyOf 7 = .ok (.invokevirtual 316, 3) := by decide +kernel
theorem d_AR_copyOf_10 : decode b_AR_copyOf 10 = .ok (.checkcast 317, 3) := by decide +kernel
theorem d_AR_copyOf_13 : decode b_AR_copyOf 13 = .ok (.areturn, 1) := by decide +kernel
theorem d_AR_copyOf_14 : decode b_AR_copyOf 14 = .ok (.iload_n 1, 1) := by decide +kernel
theorem d_AR_copyOf_15 : decode b_AR_copyOf 15 = .ok (.newarray .int, 2) := by decide +kernel
theorem d_AR_copyOf_17 : decode b_AR_copyOf 17 = .ok (.astore_n 2, 1) := by decide +kernel
theorem d_AR_copyOf_18 : decode b_AR_copyOf 18 = .ok (.aload_n 0, 1) := by decide +kernel
theorem d_AR_copyOf_19 : decode b_AR_copyOf 19 = .ok (.iconst 0, 1) := by decide +kernel
theorem d_AR_copyOf_20 : decode b_AR_copyOf 20 = .ok (.aload_n 2, 1) := by decide +kernel
theorem d_AR_copyOf_21 : decode b_AR_copyOf 21 = .ok (.iconst 0, 1) := by decide +kernel
theorem d_AR_copyOf_22 : decode b_AR_copyOf 22 = .ok (.aload_n 0, 1) := by decide +kernel
theorem d_AR_copyOf_23 : decode b_AR_copyOf 23 = .ok (.arraylength, 1) := by decide +kernel
theorem d_AR_copyOf_24 : decode b_AR_copyOf 24 = .ok (.iload_n 1, 1) := by decide +kernel
theorem d_AR_copyOf_25 : decode b_AR_copyOf 25 = .ok (.invokestatic 304, 3) := by decide +kernel
theorem d_AR_copyOf_28 : decode b_AR_copyOf 28 = .ok (.invokestatic 150, 3) := by decide +kernel
theorem d_AR_copyOf_31 : decode b_AR_copyOf 31 = .ok (.aload_n 2, 1) := by decide +kernel
theorem d_AR_copyOf_32 : decode b_AR_copyOf 32 = .ok (.areturn, 1) := by decide +kernel
theorem d_MA_min_0 : decode b_MA_min 0 = .ok (.iload_n 0, 1) := by decide +kernel
theorem d_MA_min_1 : decode b_MA_min 1 = .ok (.iload_n 1, 1) := by decide +kernel
theorem d_MA_min_2 : decode b_MA_min 2 = .ok (.if_icmp .gt 7, 3) := by decide +kernel
theorem d_MA_min_5 : decode b_MA_min 5 = .ok (.iload_n 0, 1) := by decide +kernel
theorem d_MA_min_6 : decode b_MA_min 6 = .ok (.goto 4, 3) := by decide +kernel
theorem d_MA_min_9 : decode b_MA_min 9 = .ok (.iload_n 1, 1) := by decide +kernel
theorem d_MA_min_10 : decode b_MA_min 10 = .ok (.ireturn, 1) := by decide +kernel
theorem d_FW_init_0 : decode b_FW_init 0 = .ok (.aload_n 0, 1) := by decide +kernel
theorem d_FW_init_1 : decode b_FW_init 1 = .ok (.invokespecial 3, 3) := by decide +kernel
theorem d_FW_init_4 : decode b_FW_init 4 = .ok (.aload_n 0, 1) := by decide +kernel
theorem d_FW_init_5 : decode b_FW_init 5 = .ok (.iload_n 1, 1) := by decide +kernel
theorem d_FW_init_6 : decode b_FW_init 6 = .ok (.putfield 9, 3) := by decide +kernel
theorem d_FW_init_9 : decode b_FW_init 9 = .ok (.aload_n 0, 1) := by decide +kernel
theorem d_FW_init_10 : decode b_FW_init 10 = .ok (.iload_n 2, 1) := by decide +kernel
theorem d_FW_init_11 : decode b_FW_init 11 = .ok (.putfield 15, 3) := by decide +kernel
theorem d_FW_init_14 : decode b_FW_init 14 = .ok (.aload_n 0, 1) := by decide +kernel
theorem d_FW_init_15 : decode b_FW_init 15 = .ok (.lload_n 3, 1) := by decide +kernel
theorem d_FW_init_16 : decode b_FW_init 16 = .ok (.putfield 18, 3) := by decide +kernel
theorem d_FW_init_19 : decode b_FW_init 19 = .ok (.aload_n 0, 1) := by decide +kernel
theorem d_FW_init_20 : decode b_FW_init 20 = .ok (.aload 5, 2) := by decide +kernel
theorem d_FW_init_22 : decode b_FW_init 22 = .ok (.putfield 22, 3) := by decide +kernel
theorem d_FW_init_25 : decode b_FW_init 25 = .ok (.aload_n 0, 1) := by decide +kernel
theorem d_FW_init_26 : decode b_FW_init 26 = .ok (.aload 6, 2) := by decide +kernel
theorem d_FW_init_28 : decode b_FW_init 28 = .ok (.putfield 26, 3) := by decide +kernel
theorem d_FW_init_31 : decode b_FW_init 31 = .ok (.return_, 1) := by decide +kernel
theorem d_WS_keep_0 : decode b_WS_keep 0 = .ok (.aload_n 1, 1) := by decide +kernel
theorem d_WS_keep_1 : decode b_WS_keep 1 = .ok (.ifnonnull 5, 3) := by decide +kernel
theorem d_WS_keep_4 : decode b_WS_keep 4 = .ok (.iconst (-1), 1) := by decide +kernel
theorem d_WS_keep_5 : decode b_WS_keep 5 = .ok (.ireturn, 1) := by decide +kernel
theorem d_WS_keep_6 : decode b_WS_keep 6 = .ok (.aload_n 0, 1) := by decide +kernel
theorem d_WS_keep_7 : decode b_WS_keep 7 = .ok (.getfield 38, 3) := by decide +kernel
theorem d_WS_keep_10 : decode b_WS_keep 10 = .ok (.bipush 64, 2) := by decide +kernel
theorem d_WS_keep_12 : decode b_WS_keep 12 = .ok (.if_icmp .lt 6, 3) := by decide +kernel
theorem d_WS_keep_15 : decode b_WS_keep 15 = .ok (.bipush (-5), 2) := by decide +kernel
theorem d_WS_keep_17 : decode b_WS_keep 17 = .ok (.ireturn, 1) := by decide +kernel
theorem d_WS_keep_18 : decode b_WS_keep 18 = .ok (.aload_n 0, 1) := by decide +kernel
theorem d_WS_keep_19 : decode b_WS_keep 19 = .ok (.getfield 34, 3) := by decide +kernel
theorem d_WS_keep_22 : decode b_WS_keep 22 = .ok (.aload_n 0, 1) := by decide +kernel
theorem d_WS_keep_23 : decode b_WS_keep 23 = .ok (.getfield 38, 3) := by decide +kernel
theorem d_WS_keep_26 : decode b_WS_keep 26 = .ok (.aload_n 1, 1) := by decide +kernel
theorem d_WS_keep_27 : decode b_WS_keep 27 = .ok (.aastore, 1) := by decide +kernel
theorem d_WS_keep_28 : decode b_WS_keep 28 = .ok (.aload_n 0, 1) := by decide +kernel
theorem d_WS_keep_29 : decode b_WS_keep 29 = .ok (.dup, 1) := by decide +kernel
theorem d_WS_keep_30 : decode b_WS_keep 30 = .ok (.getfield 38, 3) := by decide +kernel
theorem d_WS_keep_33 : decode b_WS_keep 33 = .ok (.iconst 1, 1) := by decide +kernel
theorem d_WS_keep_34 : decode b_WS_keep 34 = .ok (.iadd, 1) := by decide +kernel
theorem d_WS_keep_35 : decode b_WS_keep 35 = .ok (.putfield 38, 3) := by decide +kernel
theorem d_WS_keep_38 : decode b_WS_keep 38 = .ok (.aload_n 0, 1) := by decide +kernel
theorem d_WS_keep_39 : decode b_WS_keep 39 = .ok (.getfield 38, 3) := by decide +kernel
theorem d_WS_keep_42 : decode b_WS_keep 42 = .ok (.iconst 1, 1) := by decide +kernel
theorem d_WS_keep_43 : decode b_WS_keep 43 = .ok (.isub, 1) := by decide +kernel
theorem d_WS_keep_44 : decode b_WS_keep 44 = .ok (.ireturn, 1) := by decide +kernel
theorem d_WS_pipeOf_0 : decode b_WS_pipeOf 0 = .ok (.aload_n 0, 1) := by decide +kernel
theorem d_WS_pipeOf_1 : decode b_WS_pipeOf 1 = .ok (.iload_n 1, 1) := by decide +kernel
theorem d_WS_pipeOf_2 : decode b_WS_pipeOf 2 = .ok (.invokevirtual 82, 3) := by decide +kernel
theorem d_WS_pipeOf_5 : decode b_WS_pipeOf 5 = .ok (.astore_n 3, 1) := by decide +kernel
theorem d_WS_pipeOf_6 : decode b_WS_pipeOf 6 = .ok (.aload_n 3, 1) := by decide +kernel
theorem d_WS_pipeOf_7 : decode b_WS_pipeOf 7 = .ok (.ifnonnull 8, 3) := by decide +kernel
theorem d_WS_pipeOf_10 : decode b_WS_pipeOf 10 = .ok (.bipush (-2), 2) := by decide +kernel
theorem d_WS_pipeOf_12 : decode b_WS_pipeOf 12 = .ok (.goto 8, 3) := by decide +kernel
theorem d_WS_pipeOf_15 : decode b_WS_pipeOf 15 = .ok (.aload_n 3, 1) := by decide +kernel
theorem d_WS_pipeOf_16 : decode b_WS_pipeOf 16 = .ok (.iload_n 2, 1) := by decide +kernel
theorem d_WS_pipeOf_17 : decode b_WS_pipeOf 17 = .ok (.invokevirtual 86, 3) := by decide +kernel
theorem d_WS_pipeOf_20 : decode b_WS_pipeOf 20 = .ok (.ireturn, 1) := by decide +kernel
theorem d_WS_wayNumbered_0 : decode b_WS_wayNumbered 0 = .ok (.iload_n 1, 1) := by decide +kernel
theorem d_WS_wayNumbered_1 : decode b_WS_wayNumbered 1 = .ok (.ifCond .lt 20, 3) := by decide +kernel
theorem d_WS_wayNumbered_4 : decode b_WS_wayNumbered 4 = .ok (.iload_n 1, 1) := by decide +kernel
theorem d_WS_wayNumbered_5 : decode b_WS_wayNumbered 5 = .ok (.aload_n 0, 1) := by decide +kernel
theorem d_WS_wayNumbered_6 : decode b_WS_wayNumbered 6 = .ok (.getfield 38, 3) := by decide +kernel
theorem d_WS_wayNumbered_9 : decode b_WS_wayNumbered 9 = .ok (.if_icmp .ge 12, 3) := by decide +kernel
theorem d_WS_wayNumbered_12 : decode b_WS_wayNumbered 12 = .ok (.aload_n 0, 1) := by decide +kernel
theorem d_WS_wayNumbered_13 : decode b_WS_wayNumbered 13 = .ok (.getfield 34, 3) := by decide +kernel
theorem d_WS_wayNumbered_16 : decode b_WS_wayNumbered 16 = .ok (.iload_n 1, 1) := by decide +kernel
theorem d_WS_wayNumbered_17 : decode b_WS_wayNumbered 17 = .ok (.aaload, 1) := by decide +kernel
theorem d_WS_wayNumbered_18 : decode b_WS_wayNumbered 18 = .ok (.goto 4, 3) := by decide +kernel
theorem d_WS_wayNumbered_21 : decode b_WS_wayNumbered 21 = .ok (.aconst_null, 1) := by decide +kernel
theorem d_WS_wayNumbered_22 : decode b_WS_wayNumbered 22 = .ok (.areturn, 1) := by decide +kernel
theorem d_FW_pipeAt_0 : decode b_FW_pipeAt 0 = .ok (.iload_n 1, 1) := by decide +kernel
theorem d_FW_pipeAt_1 : decode b_FW_pipeAt 1 = .ok (.ifCond .lt 21, 3) := by decide +kernel
theorem d_FW_pipeAt_4 : decode b_FW_pipeAt 4 = .ok (.iload_n 1, 1) := by decide +kernel
theorem d_FW_pipeAt_5 : decode b_FW_pipeAt 5 = .ok (.aload_n 0, 1) := by decide +kernel
theorem d_FW_pipeAt_6 : decode b_FW_pipeAt 6 = .ok (.getfield 22, 3) := by decide +kernel
theorem d_FW_pipeAt_9 : decode b_FW_pipeAt 9 = .ok (.arraylength, 1) := by decide +kernel
theorem d_FW_pipeAt_10 : decode b_FW_pipeAt 10 = .ok (.if_icmp .ge 12, 3) := by decide +kernel
theorem d_FW_pipeAt_13 : decode b_FW_pipeAt 13 = .ok (.aload_n 0, 1) := by decide +kernel
theorem d_FW_pipeAt_14 : decode b_FW_pipeAt 14 = .ok (.getfield 22, 3) := by decide +kernel
theorem d_FW_pipeAt_17 : decode b_FW_pipeAt 17 = .ok (.iload_n 1, 1) := by decide +kernel
theorem d_FW_pipeAt_18 : decode b_FW_pipeAt 18 = .ok (.iaload, 1) := by decide +kernel
theorem d_FW_pipeAt_19 : decode b_FW_pipeAt 19 = .ok (.goto 4, 3) := by decide +kernel
theorem d_FW_pipeAt_22 : decode b_FW_pipeAt 22 = .ok (.iconst (-1), 1) := by decide +kernel
theorem d_FW_pipeAt_23 : decode b_FW_pipeAt 23 = .ok (.ireturn, 1) := by decide +kernel
theorem d_WS_valveOf_0 : decode b_WS_valveOf 0 = .ok (.aload_n 0, 1) := by decide +kernel
theorem d_WS_valveOf_1 : decode b_WS_valveOf 1 = .ok (.iload_n 1, 1) := by decide +kernel
theorem d_WS_valveOf_2 : decode b_WS_valveOf 2 = .ok (.invokevirtual 82, 3) := by decide +kernel
theorem d_WS_valveOf_5 : decode b_WS_valveOf 5 = .ok (.astore_n 3, 1) := by decide +kernel
theorem d_WS_valveOf_6 : decode b_WS_valveOf 6 = .ok (.aload_n 3, 1) := by decide +kernel
theorem d_WS_valveOf_7 : decode b_WS_valveOf 7 = .ok (.ifnonnull 6, 3) := by decide +kernel
theorem d_WS_valveOf_10 : decode b_WS_valveOf 10 = .ok (.bipush (-2), 2) := by decide +kernel
theorem d_WS_valveOf_12 : decode b_WS_valveOf 12 = .ok (.ireturn, 1) := by decide +kernel
theorem d_WS_valveOf_13 : decode b_WS_valveOf 13 = .ok (.iconst 0, 1) := by decide +kernel
theorem d_WS_valveOf_14 : decode b_WS_valveOf 14 = .ok (.istore 4, 2) := by decide +kernel
theorem d_WS_valveOf_16 : decode b_WS_valveOf 16 = .ok (.aload_n 3, 1) := by decide +kernel
theorem d_WS_valveOf_17 : decode b_WS_valveOf 17 = .ok (.getfield 90, 3) := by decide +kernel
theorem d_WS_valveOf_20 : decode b_WS_valveOf 20 = .ok (.astore 5, 2) := by decide +kernel
theorem d_WS_valveOf_22 : decode b_WS_valveOf 22 = .ok (.aload 5, 2) := by decide +kernel
theorem d_WS_valveOf_24 : decode b_WS_valveOf 24 = .ok (.arraylength, 1) := by decide +kernel
theorem d_WS_valveOf_25 : decode b_WS_valveOf 25 = .ok (.istore 6, 2) := by decide +kernel
theorem d_WS_valveOf_27 : decode b_WS_valveOf 27 = .ok (.iconst 0, 1) := by decide +kernel
theorem d_WS_valveOf_28 : decode b_WS_valveOf 28 = .ok (.istore 7, 2) := by decide +kernel
theorem d_WS_valveOf_30 : decode b_WS_valveOf 30 = .ok (.iload 7, 2) := by decide +kernel
theorem d_WS_valveOf_32 : decode b_WS_valveOf 32 = .ok (.iload 6, 2) := by decide +kernel
theorem d_WS_valveOf_34 : decode b_WS_valveOf 34 = .ok (.if_icmp .ge 41, 3) := by decide +kernel
theorem d_WS_valveOf_37 : decode b_WS_valveOf 37 = .ok (.aload 5, 2) := by decide +kernel
theorem d_WS_valveOf_39 : decode b_WS_valveOf 39 = .ok (.iload 7, 2) := by decide +kernel
theorem d_WS_valveOf_41 : decode b_WS_valveOf 41 = .ok (.iaload, 1) := by decide +kernel
theorem d_WS_valveOf_42 : decode b_WS_valveOf 42 = .ok (.istore 8, 2) := by decide +kernel
theorem d_WS_valveOf_44 : decode b_WS_valveOf 44 = .ok (.aload_n 0, 1) := by decide +kernel
theorem d_WS_valveOf_45 : decode b_WS_valveOf 45 = .ok (.getfield 10, 3) := by decide +kernel
theorem d_WS_valveOf_48 : decode b_WS_valveOf 48 = .ok (.iload 8, 2) := by decide +kernel
theorem d_WS_valveOf_50 : decode b_WS_valveOf 50 = .ok (.iconst 2, 1) := by decide +kernel
theorem d_WS_valveOf_51 : decode b_WS_valveOf 51 = .ok (.invokevirtual 93, 3) := by decide +kernel
theorem d_WS_valveOf_54 : decode b_WS_valveOf 54 = .ok (.ifCond .eq 15, 3) := by decide +kernel
theorem d_WS_valveOf_57 : decode b_WS_valveOf 57 = .ok (.iload 4, 2) := by decide +kernel
theorem d_WS_valveOf_59 : decode b_WS_valveOf 59 = .ok (.iload_n 2, 1) := by decide +kernel
theorem d_WS_valveOf_60 : decode b_WS_valveOf 60 = .ok (.if_icmp .ne 6, 3) := by decide +kernel
theorem d_WS_valveOf_63 : decode b_WS_valveOf 63 = .ok (.iload 8, 2) := by decide +kernel
theorem d_WS_valveOf_65 : decode b_WS_valveOf 65 = .ok (.ireturn, 1) := by decide +kernel
theorem d_WS_valveOf_66 : decode b_WS_valveOf 66 = .ok (.iinc 4 1, 3) := by decide +kernel
theorem d_WS_valveOf_69 : decode b_WS_valveOf 69 = .ok (.iinc 7 1, 3) := by decide +kernel
theorem d_WS_valveOf_72 : decode b_WS_valveOf 72 = .ok (.goto (-42), 3) := by decide +kernel
theorem d_WS_valveOf_75 : decode b_WS_valveOf 75 = .ok (.iconst (-1), 1) := by decide +kernel
theorem d_WS_valveOf_76 : decode b_WS_valveOf 76 = .ok (.ireturn, 1) := by decide +kernel
theorem d_WS_rest_0 : decode b_WS_rest 0 = .ok (.aload_n 0, 1) := by decide +kernel
theorem d_WS_rest_1 : decode b_WS_rest 1 = .ok (.iload_n 1, 1) := by decide +kernel
theorem d_WS_rest_2 : decode b_WS_rest 2 = .ok (.invokevirtual 82, 3) := by decide +kernel
theorem d_WS_rest_5 : decode b_WS_rest 5 = .ok (.astore_n 2, 1) := by decide +kernel
theorem d_WS_rest_6 : decode b_WS_rest 6 = .ok (.aload_n 2, 1) := by decide +kernel
theorem d_WS_rest_7 : decode b_WS_rest 7 = .ok (.ifnonnull 9, 3) := by decide +kernel
theorem d_WS_rest_10 : decode b_WS_rest 10 = .ok (.ldc2_w 97, 3) := by decide +kernel
theorem d_WS_rest_13 : decode b_WS_rest 13 = .ok (.goto 7, 3) := by decide +kernel
theorem d_WS_rest_16 : decode b_WS_rest 16 = .ok (.aload_n 2, 1) := by decide +kernel
theorem d_WS_rest_17 : decode b_WS_rest 17 = .ok (.getfield 99, 3) := by decide +kernel
theorem d_WS_rest_20 : decode b_WS_rest 20 = .ok (.lreturn, 1) := by decide +kernel
theorem d_WS_other_0 : decode b_WS_other 0 = .ok (.aload_n 0, 1) := by decide +kernel
theorem d_WS_other_1 : decode b_WS_other 1 = .ok (.iload_n 1, 1) := by decide +kernel
theorem d_WS_other_2 : decode b_WS_other 2 = .ok (.invokevirtual 82, 3) := by decide +kernel
theorem d_WS_other_5 : decode b_WS_other 5 = .ok (.astore_n 3, 1) := by decide +kernel
theorem d_WS_other_6 : decode b_WS_other 6 = .ok (.aload_n 3, 1) := by decide +kernel
theorem d_WS_other_7 : decode b_WS_other 7 = .ok (.ifnonnull 6, 3) := by decide +kernel
theorem d_WS_other_10 : decode b_WS_other 10 = .ok (.bipush (-2), 2) := by decide +kernel
theorem d_WS_other_12 : decode b_WS_other 12 = .ok (.ireturn, 1) := by decide +kernel
theorem d_WS_other_13 : decode b_WS_other 13 = .ok (.aload_n 3, 1) := by decide +kernel
theorem d_WS_other_14 : decode b_WS_other 14 = .ok (.iload_n 2, 1) := by decide +kernel
theorem d_WS_other_15 : decode b_WS_other 15 = .ok (.invokevirtual 86, 3) := by decide +kernel
theorem d_WS_other_18 : decode b_WS_other 18 = .ok (.istore 4, 2) := by decide +kernel
theorem d_WS_other_20 : decode b_WS_other 20 = .ok (.iload 4, 2) := by decide +kernel
theorem d_WS_other_22 : decode b_WS_other 22 = .ok (.iconst (-1), 1) := by decide +kernel
theorem d_WS_other_23 : decode b_WS_other 23 = .ok (.if_icmp .ne 5, 3) := by decide +kernel
theorem d_WS_other_26 : decode b_WS_other 26 = .ok (.iconst (-1), 1) := by decide +kernel
theorem d_WS_other_27 : decode b_WS_other 27 = .ok (.ireturn, 1) := by decide +kernel
theorem d_WS_other_28 : decode b_WS_other 28 = .ok (.aload_n 0, 1) := by decide +kernel
theorem d_WS_other_29 : decode b_WS_other 29 = .ok (.getfield 28, 3) := by decide +kernel
theorem d_WS_other_32 : decode b_WS_other 32 = .ok (.invokevirtual 71, 3) := by decide +kernel
theorem d_WS_other_35 : decode b_WS_other 35 = .ok (.aload_n 0, 1) := by decide +kernel
theorem d_WS_other_36 : decode b_WS_other 36 = .ok (.getfield 28, 3) := by decide +kernel
theorem d_WS_other_39 : decode b_WS_other 39 = .ok (.iload 4, 2) := by decide +kernel
theorem d_WS_other_41 : decode b_WS_other 41 = .ok (.invokevirtual 103, 3) := by decide +kernel
theorem d_WS_other_44 : decode b_WS_other 44 = .ok (.aload_n 0, 1) := by decide +kernel
theorem d_WS_other_45 : decode b_WS_other 45 = .ok (.aload_n 0, 1) := by decide +kernel
theorem d_WS_other_46 : decode b_WS_other 46 = .ok (.getfield 28, 3) := by decide +kernel
theorem d_WS_other_49 : decode b_WS_other 49 = .ok (.aload_n 3, 1) := by decide +kernel
theorem d_WS_other_50 : decode b_WS_other 50 = .ok (.getfield 107, 3) := by decide +kernel
theorem d_WS_other_53 : decode b_WS_other 53 = .ok (.aload_n 3, 1) := by decide +kernel
theorem d_WS_other_54 : decode b_WS_other 54 = .ok (.getfield 110, 3) := by decide +kernel
theorem d_WS_other_57 : decode b_WS_other 57 = .ok (.invokevirtual 74, 3) := by decide +kernel
theorem d_WS_other_60 : decode b_WS_other 60 = .ok (.invokevirtual 78, 3) := by decide +kernel
theorem d_WS_other_63 : decode b_WS_other 63 = .ok (.ireturn, 1) := by decide +kernel
theorem d_SE_shutPipe_0 : decode b_SE_shutPipe 0 = .ok (.aload_n 0, 1) := by decide +kernel
theorem d_SE_shutPipe_1 : decode b_SE_shutPipe 1 = .ok (.getfield 51, 3) := by decide +kernel
theorem d_SE_shutPipe_4 : decode b_SE_shutPipe 4 = .ok (.iload_n 1, 1) := by decide +kernel
theorem d_SE_shutPipe_5 : decode b_SE_shutPipe 5 = .ok (.invokevirtual 79, 3) := by decide +kernel
theorem d_SE_shutPipe_8 : decode b_SE_shutPipe 8 = .ok (.ifCond .eq 10, 3) := by decide +kernel
theorem d_SE_shutPipe_11 : decode b_SE_shutPipe 11 = .ok (.aload_n 0, 1) := by decide +kernel
theorem d_SE_shutPipe_12 : decode b_SE_shutPipe 12 = .ok (.getfield 17, 3) := by decide +kernel
theorem d_SE_shutPipe_15 : decode b_SE_shutPipe 15 = .ok (.iload_n 1, 1) := by decide +kernel
theorem d_SE_shutPipe_16 : decode b_SE_shutPipe 16 = .ok (.iconst 1, 1) := by decide +kernel
theorem d_SE_shutPipe_17 : decode b_SE_shutPipe 17 = .ok (.bastore, 1) := by decide +kernel
theorem d_SE_shutPipe_18 : decode b_SE_shutPipe 18 = .ok (.return_, 1) := by decide +kernel
theorem d_WS_two_0 : decode b_WS_two 0 = .ok (.aload_n 0, 1) := by decide +kernel
theorem d_WS_two_1 : decode b_WS_two 1 = .ok (.iload_n 1, 1) := by decide +kernel
theorem d_WS_two_2 : decode b_WS_two 2 = .ok (.iload_n 2, 1) := by decide +kernel
theorem d_WS_two_3 : decode b_WS_two 3 = .ok (.invokevirtual 67, 3) := by decide +kernel
theorem d_WS_two_6 : decode b_WS_two 6 = .ok (.istore 5, 2) := by decide +kernel
theorem d_WS_two_8 : decode b_WS_two 8 = .ok (.iload 5, 2) := by decide +kernel
theorem d_WS_two_10 : decode b_WS_two 10 = .ok (.ifCond .ne 12, 3) := by decide +kernel
theorem d_WS_two_13 : decode b_WS_two 13 = .ok (.aload_n 0, 1) := by decide +kernel
theorem d_WS_two_14 : decode b_WS_two 14 = .ok (.iload_n 3, 1) := by decide +kernel
theorem d_WS_two_15 : decode b_WS_two 15 = .ok (.iload 4, 2) := by decide +kernel
theorem d_WS_two_17 : decode b_WS_two 17 = .ok (.invokevirtual 67, 3) := by decide +kernel
theorem d_WS_two_20 : decode b_WS_two 20 = .ok (.istore 5, 2) := by decide +kernel
theorem d_WS_two_22 : decode b_WS_two 22 = .ok (.iload 5, 2) := by decide +kernel
theorem d_WS_two_24 : decode b_WS_two 24 = .ok (.ifCond .eq 6, 3) := by decide +kernel
theorem d_WS_two_27 : decode b_WS_two 27 = .ok (.iload 5, 2) := by decide +kernel
theorem d_WS_two_29 : decode b_WS_two 29 = .ok (.ireturn, 1) := by decide +kernel
theorem d_WS_two_30 : decode b_WS_two 30 = .ok (.aload_n 0, 1) := by decide +kernel
theorem d_WS_two_31 : decode b_WS_two 31 = .ok (.getfield 28, 3) := by decide +kernel
theorem d_WS_two_34 : decode b_WS_two 34 = .ok (.invokevirtual 71, 3) := by decide +kernel
theorem d_WS_two_37 : decode b_WS_two 37 = .ok (.aload_n 0, 1) := by decide +kernel
theorem d_WS_two_38 : decode b_WS_two 38 = .ok (.getfield 28, 3) := by decide +kernel
theorem d_WS_two_41 : decode b_WS_two 41 = .ok (.iload_n 1, 1) := by decide +kernel
theorem d_WS_two_42 : decode b_WS_two 42 = .ok (.iload_n 2, 1) := by decide +kernel
theorem d_WS_two_43 : decode b_WS_two 43 = .ok (.invokevirtual 74, 3) := by decide +kernel
theorem d_WS_two_46 : decode b_WS_two 46 = .ok (.astore 6, 2) := by decide +kernel
theorem d_WS_two_48 : decode b_WS_two 48 = .ok (.aload 6, 2) := by decide +kernel
theorem d_WS_two_50 : decode b_WS_two 50 = .ok (.ifnonnull 5, 3) := by decide +kernel
theorem d_WS_two_53 : decode b_WS_two 53 = .ok (.iconst (-1), 1) := by decide +kernel
theorem d_WS_two_54 : decode b_WS_two 54 = .ok (.ireturn, 1) := by decide +kernel
theorem d_WS_two_55 : decode b_WS_two 55 = .ok (.aload_n 0, 1) := by decide +kernel
theorem d_WS_two_56 : decode b_WS_two 56 = .ok (.getfield 28, 3) := by decide +kernel
theorem d_WS_two_59 : decode b_WS_two 59 = .ok (.aload 6, 2) := by decide +kernel
theorem d_WS_two_61 : decode b_WS_two 61 = .ok (.invokevirtual 113, 3) := by decide +kernel
theorem d_WS_two_64 : decode b_WS_two 64 = .ok (.aload_n 0, 1) := by decide +kernel
theorem d_WS_two_65 : decode b_WS_two 65 = .ok (.getfield 28, 3) := by decide +kernel
theorem d_WS_two_68 : decode b_WS_two 68 = .ok (.iload_n 3, 1) := by decide +kernel
theorem d_WS_two_69 : decode b_WS_two 69 = .ok (.iload 4, 2) := by decide +kernel
theorem d_WS_two_71 : decode b_WS_two 71 = .ok (.invokevirtual 74, 3) := by decide +kernel
theorem d_WS_two_74 : decode b_WS_two 74 = .ok (.astore 7, 2) := by decide +kernel
theorem d_WS_two_76 : decode b_WS_two 76 = .ok (.aload 7, 2) := by decide +kernel
theorem d_WS_two_78 : decode b_WS_two 78 = .ok (.ifnonnull 5, 3) := by decide +kernel
theorem d_WS_two_81 : decode b_WS_two 81 = .ok (.iconst (-1), 1) := by decide +kernel
theorem d_WS_two_82 : decode b_WS_two 82 = .ok (.ireturn, 1) := by decide +kernel
theorem d_WS_two_83 : decode b_WS_two 83 = .ok (.aload_n 0, 1) := by decide +kernel
theorem d_WS_two_84 : decode b_WS_two 84 = .ok (.getfield 38, 3) := by decide +kernel
theorem d_WS_two_87 : decode b_WS_two 87 = .ok (.iconst 2, 1) := by decide +kernel
theorem d_WS_two_88 : decode b_WS_two 88 = .ok (.iadd, 1) := by decide +kernel
theorem d_WS_two_89 : decode b_WS_two 89 = .ok (.bipush 64, 2) := by decide +kernel
theorem d_WS_two_91 : decode b_WS_two 91 = .ok (.if_icmp .le 6, 3) := by decide +kernel
theorem d_WS_two_94 : decode b_WS_two 94 = .ok (.bipush (-5), 2) := by decide +kernel
theorem d_WS_two_96 : decode b_WS_two 96 = .ok (.ireturn, 1) := by decide +kernel
theorem d_WS_two_97 : decode b_WS_two 97 = .ok (.aload_n 0, 1) := by decide +kernel
theorem d_WS_two_98 : decode b_WS_two 98 = .ok (.aload 6, 2) := by decide +kernel
theorem d_WS_two_100 : decode b_WS_two 100 = .ok (.invokevirtual 78, 3) := by decide +kernel
theorem d_WS_two_103 : decode b_WS_two 103 = .ok (.pop, 1) := by decide +kernel
theorem d_WS_two_104 : decode b_WS_two 104 = .ok (.aload_n 0, 1) := by decide +kernel
theorem d_WS_two_105 : decode b_WS_two 105 = .ok (.aload 7, 2) := by decide +kernel
theorem d_WS_two_107 : decode b_WS_two 107 = .ok (.invokevirtual 78, 3) := by decide +kernel
theorem d_WS_two_110 : decode b_WS_two 110 = .ok (.ireturn, 1) := by decide +kernel
theorem d_SE_shutWay_0 : decode b_SE_shutWay 0 = .ok (.aload_n 1, 1) := by decide +kernel
theorem d_SE_shutWay_1 : decode b_SE_shutWay 1 = .ok (.getfield 83, 3) := by decide +kernel
theorem d_SE_shutWay_4 : decode b_SE_shutWay 4 = .ok (.astore_n 2, 1) := by decide +kernel
theorem d_SE_shutWay_5 : decode b_SE_shutWay 5 = .ok (.aload_n 2, 1) := by decide +kernel
theorem d_SE_shutWay_6 : decode b_SE_shutWay 6 = .ok (.arraylength, 1) := by decide +kernel
theorem d_SE_shutWay_7 : decode b_SE_shutWay 7 = .ok (.istore_n 3, 1) := by decide +kernel
theorem d_SE_shutWay_8 : decode b_SE_shutWay 8 = .ok (.iconst 0, 1) := by decide +kernel
theorem d_SE_shutWay_9 : decode b_SE_shutWay 9 = .ok (.istore 4, 2) := by decide +kernel
theorem d_SE_shutWay_11 : decode b_SE_shutWay 11 = .ok (.iload 4, 2) := by decide +kernel
theorem d_SE_shutWay_13 : decode b_SE_shutWay 13 = .ok (.iload_n 3, 1) := by decide +kernel
theorem d_SE_shutWay_14 : decode b_SE_shutWay 14 = .ok (.if_icmp .ge 21, 3) := by decide +kernel
theorem d_SE_shutWay_17 : decode b_SE_shutWay 17 = .ok (.aload_n 2, 1) := by decide +kernel
theorem d_SE_shutWay_18 : decode b_SE_shutWay 18 = .ok (.iload 4, 2) := by decide +kernel
theorem d_SE_shutWay_20 : decode b_SE_shutWay 20 = .ok (.iaload, 1) := by decide +kernel
theorem d_SE_shutWay_21 : decode b_SE_shutWay 21 = .ok (.istore 5, 2) := by decide +kernel
theorem d_SE_shutWay_23 : decode b_SE_shutWay 23 = .ok (.aload_n 0, 1) := by decide +kernel
theorem d_SE_shutWay_24 : decode b_SE_shutWay 24 = .ok (.iload 5, 2) := by decide +kernel
theorem d_SE_shutWay_26 : decode b_SE_shutWay 26 = .ok (.invokevirtual 87, 3) := by decide +kernel
theorem d_SE_shutWay_29 : decode b_SE_shutWay 29 = .ok (.iinc 4 1, 3) := by decide +kernel
theorem d_SE_shutWay_32 : decode b_SE_shutWay 32 = .ok (.goto (-21), 3) := by decide +kernel
theorem d_SE_shutWay_35 : decode b_SE_shutWay 35 = .ok (.aload_n 1, 1) := by decide +kernel
theorem d_SE_shutWay_36 : decode b_SE_shutWay 36 = .ok (.getfield 90, 3) := by decide +kernel
theorem d_SE_shutWay_39 : decode b_SE_shutWay 39 = .ok (.astore_n 2, 1) := by decide +kernel
theorem d_SE_shutWay_40 : decode b_SE_shutWay 40 = .ok (.aload_n 2, 1) := by decide +kernel
theorem d_SE_shutWay_41 : decode b_SE_shutWay 41 = .ok (.arraylength, 1) := by decide +kernel
theorem d_SE_shutWay_42 : decode b_SE_shutWay 42 = .ok (.istore_n 3, 1) := by decide +kernel
theorem d_SE_shutWay_43 : decode b_SE_shutWay 43 = .ok (.iconst 0, 1) := by decide +kernel
theorem d_SE_shutWay_44 : decode b_SE_shutWay 44 = .ok (.istore 4, 2) := by decide +kernel
theorem d_SE_shutWay_46 : decode b_SE_shutWay 46 = .ok (.iload 4, 2) := by decide +kernel
theorem d_SE_shutWay_48 : decode b_SE_shutWay 48 = .ok (.iload_n 3, 1) := by decide +kernel
theorem d_SE_shutWay_49 : decode b_SE_shutWay 49 = .ok (.if_icmp .ge 21, 3) := by decide +kernel
theorem d_SE_shutWay_52 : decode b_SE_shutWay 52 = .ok (.aload_n 2, 1) := by decide +kernel
theorem d_SE_shutWay_53 : decode b_SE_shutWay 53 = .ok (.iload 4, 2) := by decide +kernel
theorem d_SE_shutWay_55 : decode b_SE_shutWay 55 = .ok (.iaload, 1) := by decide +kernel
theorem d_SE_shutWay_56 : decode b_SE_shutWay 56 = .ok (.istore 5, 2) := by decide +kernel
theorem d_SE_shutWay_58 : decode b_SE_shutWay 58 = .ok (.aload_n 0, 1) := by decide +kernel
theorem d_SE_shutWay_59 : decode b_SE_shutWay 59 = .ok (.iload 5, 2) := by decide +kernel
theorem d_SE_shutWay_61 : decode b_SE_shutWay 61 = .ok (.invokevirtual 72, 3) := by decide +kernel
theorem d_SE_shutWay_64 : decode b_SE_shutWay 64 = .ok (.iinc 4 1, 3) := by decide +kernel
theorem d_SE_shutWay_67 : decode b_SE_shutWay 67 = .ok (.goto (-21), 3) := by decide +kernel
theorem d_SE_shutWay_70 : decode b_SE_shutWay 70 = .ok (.return_, 1) := by decide +kernel
theorem d_WS_forward_0 : decode b_WS_forward 0 = .ok (.aload_n 0, 1) := by decide +kernel
theorem d_WS_forward_1 : decode b_WS_forward 1 = .ok (.getfield 10, 3) := by decide +kernel
theorem d_WS_forward_4 : decode b_WS_forward 4 = .ok (.iload_n 1, 1) := by decide +kernel
theorem d_WS_forward_5 : decode b_WS_forward 5 = .ok (.iconst 1, 1) := by decide +kernel
theorem d_WS_forward_6 : decode b_WS_forward 6 = .ok (.invokevirtual 93, 3) := by decide +kernel
theorem d_WS_forward_9 : decode b_WS_forward 9 = .ok (.ifCond .eq 8, 3) := by decide +kernel
theorem d_WS_forward_12 : decode b_WS_forward 12 = .ok (.iload_n 2, 1) := by decide +kernel
theorem d_WS_forward_13 : decode b_WS_forward 13 = .ok (.iload_n 3, 1) := by decide +kernel
theorem d_WS_forward_14 : decode b_WS_forward 14 = .ok (.if_icmp .ne 5, 3) := by decide +kernel
theorem d_WS_forward_17 : decode b_WS_forward 17 = .ok (.iconst 0, 1) := by decide +kernel
theorem d_WS_forward_18 : decode b_WS_forward 18 = .ok (.ireturn, 1) := by decide +kernel
theorem d_WS_forward_19 : decode b_WS_forward 19 = .ok (.aload_n 0, 1) := by decide +kernel
theorem d_WS_forward_20 : decode b_WS_forward 20 = .ok (.getfield 19, 3) := by decide +kernel
theorem d_WS_forward_23 : decode b_WS_forward 23 = .ok (.iload_n 1, 1) := by decide +kernel
theorem d_WS_forward_24 : decode b_WS_forward 24 = .ok (.iload_n 2, 1) := by decide +kernel
theorem d_WS_forward_25 : decode b_WS_forward 25 = .ok (.invokevirtual 117, 3) := by decide +kernel
theorem d_WS_forward_28 : decode b_WS_forward 28 = .ok (.ifCond .eq 15, 3) := by decide +kernel
theorem d_WS_forward_31 : decode b_WS_forward 31 = .ok (.aload_n 0, 1) := by decide +kernel
theorem d_WS_forward_32 : decode b_WS_forward 32 = .ok (.getfield 19, 3) := by decide +kernel
theorem d_WS_forward_35 : decode b_WS_forward 35 = .ok (.iload_n 1, 1) := by decide +kernel
theorem d_WS_forward_36 : decode b_WS_forward 36 = .ok (.iload_n 3, 1) := by decide +kernel
theorem d_WS_forward_37 : decode b_WS_forward 37 = .ok (.invokevirtual 117, 3) := by decide +kernel
theorem d_WS_forward_40 : decode b_WS_forward 40 = .ok (.ifCond .ne 5, 3) := by decide +kernel
theorem d_WS_forward_43 : decode b_WS_forward 43 = .ok (.iconst 0, 1) := by decide +kernel
theorem d_WS_forward_44 : decode b_WS_forward 44 = .ok (.ireturn, 1) := by decide +kernel
theorem d_WS_forward_45 : decode b_WS_forward 45 = .ok (.aload_n 0, 1) := by decide +kernel
theorem d_WS_forward_46 : decode b_WS_forward 46 = .ok (.getfield 10, 3) := by decide +kernel
theorem d_WS_forward_49 : decode b_WS_forward 49 = .ok (.getfield 120, 3) := by decide +kernel
theorem d_WS_forward_52 : decode b_WS_forward 52 = .ok (.iload_n 1, 1) := by decide +kernel
theorem d_WS_forward_53 : decode b_WS_forward 53 = .ok (.iload_n 2, 1) := by decide +kernel
theorem d_WS_forward_54 : decode b_WS_forward 54 = .ok (.iastore, 1) := by decide +kernel
theorem d_WS_forward_55 : decode b_WS_forward 55 = .ok (.aload_n 0, 1) := by decide +kernel
theorem d_WS_forward_56 : decode b_WS_forward 56 = .ok (.getfield 10, 3) := by decide +kernel
theorem d_WS_forward_59 : decode b_WS_forward 59 = .ok (.getfield 123, 3) := by decide +kernel
theorem d_WS_forward_62 : decode b_WS_forward 62 = .ok (.iload_n 1, 1) := by decide +kernel
theorem d_WS_forward_63 : decode b_WS_forward 63 = .ok (.iload_n 3, 1) := by decide +kernel
theorem d_WS_forward_64 : decode b_WS_forward 64 = .ok (.iastore, 1) := by decide +kernel
theorem d_WS_forward_65 : decode b_WS_forward 65 = .ok (.iconst 1, 1) := by decide +kernel
theorem d_WS_forward_66 : decode b_WS_forward 66 = .ok (.ireturn, 1) := by decide +kernel
theorem d_PI_anyJoins_0 : decode b_PI_anyJoins 0 = .ok (.iconst 0, 1) := by decide +kernel
theorem d_PI_anyJoins_1 : decode b_PI_anyJoins 1 = .ok (.istore_n 3, 1) := by decide +kernel
theorem d_PI_anyJoins_2 : decode b_PI_anyJoins 2 = .ok (.iload_n 3, 1) := by decide +kernel
theorem d_PI_anyJoins_3 : decode b_PI_anyJoins 3 = .ok (.aload_n 0, 1) := by decide +kernel
theorem d_PI_anyJoins_4 : decode b_PI_anyJoins 4 = .ok (.getfield 26, 3) := by decide +kernel
theorem d_PI_anyJoins_7 : decode b_PI_anyJoins 7 = .ok (.if_icmp .ge 75, 3) := by decide +kernel
theorem d_PI_anyJoins_10 : decode b_PI_anyJoins 10 = .ok (.aload_n 0, 1) := by decide +kernel
theorem d_PI_anyJoins_11 : decode b_PI_anyJoins 11 = .ok (.getfield 9, 3) := by decide +kernel
theorem d_PI_anyJoins_14 : decode b_PI_anyJoins 14 = .ok (.iload_n 3, 1) := by decide +kernel
theorem d_PI_anyJoins_15 : decode b_PI_anyJoins 15 = .ok (.iaload, 1) := by decide +kernel
theorem d_PI_anyJoins_16 : decode b_PI_anyJoins 16 = .ok (.iload_n 1, 1) := by decide +kernel
theorem d_PI_anyJoins_17 : decode b_PI_anyJoins 17 = .ok (.if_icmp .ne 17, 3) := by decide +kernel
theorem d_PI_anyJoins_20 : decode b_PI_anyJoins 20 = .ok (.aload_n 0, 1) := by decide +kernel
theorem d_PI_anyJoins_21 : decode b_PI_anyJoins 21 = .ok (.getfield 15, 3) := by decide +kernel
theorem d_PI_anyJoins_24 : decode b_PI_anyJoins 24 = .ok (.iload_n 3, 1) := by decide +kernel
theorem d_PI_anyJoins_25 : decode b_PI_anyJoins 25 = .ok (.iaload, 1) := by decide +kernel
theorem d_PI_anyJoins_26 : decode b_PI_anyJoins 26 = .ok (.iload_n 2, 1) := by decide +kernel
theorem d_PI_anyJoins_27 : decode b_PI_anyJoins 27 = .ok (.if_icmp .ne 7, 3) := by decide +kernel
theorem d_PI_anyJoins_30 : decode b_PI_anyJoins 30 = .ok (.iconst 1, 1) := by decide +kernel
theorem d_PI_anyJoins_31 : decode b_PI_anyJoins 31 = .ok (.goto 4, 3) := by decide +kernel
theorem d_PI_anyJoins_34 : decode b_PI_anyJoins 34 = .ok (.iconst 0, 1) := by decide +kernel
theorem d_PI_anyJoins_35 : decode b_PI_anyJoins 35 = .ok (.istore 4, 2) := by decide +kernel
theorem d_PI_anyJoins_37 : decode b_PI_anyJoins 37 = .ok (.aload_n 0, 1) := by decide +kernel
theorem d_PI_anyJoins_38 : decode b_PI_anyJoins 38 = .ok (.getfield 9, 3) := by decide +kernel
theorem d_PI_anyJoins_41 : decode b_PI_anyJoins 41 = .ok (.iload_n 3, 1) := by decide +kernel
theorem d_PI_anyJoins_42 : decode b_PI_anyJoins 42 = .ok (.iaload, 1) := by decide +kernel
theorem d_PI_anyJoins_43 : decode b_PI_anyJoins 43 = .ok (.iload_n 2, 1) := by decide +kernel
theorem d_PI_anyJoins_44 : decode b_PI_anyJoins 44 = .ok (.if_icmp .ne 17, 3) := by decide +kernel
theorem d_PI_anyJoins_47 : decode b_PI_anyJoins 47 = .ok (.aload_n 0, 1) := by decide +kernel
theorem d_PI_anyJoins_48 : decode b_PI_anyJoins 48 = .ok (.getfield 15, 3) := by decide +kernel
theorem d_PI_anyJoins_51 : decode b_PI_anyJoins 51 = .ok (.iload_n 3, 1) := by decide +kernel
theorem d_PI_anyJoins_52 : decode b_PI_anyJoins 52 = .ok (.iaload, 1) := by decide +kernel
theorem d_PI_anyJoins_53 : decode b_PI_anyJoins 53 = .ok (.iload_n 1, 1) := by decide +kernel
theorem d_PI_anyJoins_54 : decode b_PI_anyJoins 54 = .ok (.if_icmp .ne 7, 3) := by decide +kernel
theorem d_PI_anyJoins_57 : decode b_PI_anyJoins 57 = .ok (.iconst 1, 1) := by decide +kernel
theorem d_PI_anyJoins_58 : decode b_PI_anyJoins 58 = .ok (.goto 4, 3) := by decide +kernel
theorem d_PI_anyJoins_61 : decode b_PI_anyJoins 61 = .ok (.iconst 0, 1) := by decide +kernel
theorem d_PI_anyJoins_62 : decode b_PI_anyJoins 62 = .ok (.istore 5, 2) := by decide +kernel
theorem d_PI_anyJoins_64 : decode b_PI_anyJoins 64 = .ok (.iload 4, 2) := by decide +kernel
theorem d_PI_anyJoins_66 : decode b_PI_anyJoins 66 = .ok (.ifCond .ne 8, 3) := by decide +kernel
theorem d_PI_anyJoins_69 : decode b_PI_anyJoins 69 = .ok (.iload 5, 2) := by decide +kernel
theorem d_PI_anyJoins_71 : decode b_PI_anyJoins 71 = .ok (.ifCond .eq 5, 3) := by decide +kernel
theorem d_PI_anyJoins_74 : decode b_PI_anyJoins 74 = .ok (.iconst 1, 1) := by decide +kernel
theorem d_PI_anyJoins_75 : decode b_PI_anyJoins 75 = .ok (.ireturn, 1) := by decide +kernel
theorem d_PI_anyJoins_76 : decode b_PI_anyJoins 76 = .ok (.iinc 3 1, 3) := by decide +kernel
theorem d_PI_anyJoins_79 : decode b_PI_anyJoins 79 = .ok (.goto (-77), 3) := by decide +kernel
theorem d_PI_anyJoins_82 : decode b_PI_anyJoins 82 = .ok (.iconst 0, 1) := by decide +kernel
theorem d_PI_anyJoins_83 : decode b_PI_anyJoins 83 = .ok (.ireturn, 1) := by decide +kernel
theorem d_WS_told_0 : decode b_WS_told 0 = .ok (.iload_n 1, 1) := by decide +kernel
theorem d_WS_told_1 : decode b_WS_told 1 = .ok (.tableswitch 102 0 6 #[43, 51, 59, 64, 75, 86, 97], 43) := by decide +kernel
theorem d_WS_told_44 : decode b_WS_told 44 = .ok (.aload_n 0, 1) := by decide +kernel
theorem d_WS_told_45 : decode b_WS_told 45 = .ok (.getfield 10, 3) := by decide +kernel
theorem d_WS_told_48 : decode b_WS_told 48 = .ok (.getfield 126, 3) := by decide +kernel
theorem d_WS_told_51 : decode b_WS_told 51 = .ok (.ireturn, 1) := by decide +kernel
theorem d_WS_told_52 : decode b_WS_told 52 = .ok (.aload_n 0, 1) := by decide +kernel
theorem d_WS_told_53 : decode b_WS_told 53 = .ok (.getfield 19, 3) := by decide +kernel
theorem d_WS_told_56 : decode b_WS_told 56 = .ok (.getfield 129, 3) := by decide +kernel
theorem d_WS_told_59 : decode b_WS_told 59 = .ok (.ireturn, 1) := by decide +kernel
theorem d_WS_told_60 : decode b_WS_told 60 = .ok (.aload_n 0, 1) := by decide +kernel
theorem d_WS_told_61 : decode b_WS_told 61 = .ok (.getfield 38, 3) := by decide +kernel
theorem d_WS_told_64 : decode b_WS_told 64 = .ok (.ireturn, 1) := by decide +kernel
theorem d_WS_told_65 : decode b_WS_told 65 = .ok (.aload_n 0, 1) := by decide +kernel
theorem d_WS_told_66 : decode b_WS_told 66 = .ok (.getfield 10, 3) := by decide +kernel
theorem d_WS_told_69 : decode b_WS_told 69 = .ok (.getfield 64, 3) := by decide +kernel
theorem d_WS_told_72 : decode b_WS_told 72 = .ok (.invokestatic 130, 3) := by decide +kernel
theorem d_WS_told_75 : decode b_WS_told 75 = .ok (.ireturn, 1) := by decide +kernel
theorem d_WS_told_76 : decode b_WS_told 76 = .ok (.aload_n 0, 1) := by decide +kernel
theorem d_WS_told_77 : decode b_WS_told 77 = .ok (.getfield 19, 3) := by decide +kernel
theorem d_WS_told_80 : decode b_WS_told 80 = .ok (.getfield 56, 3) := by decide +kernel
theorem d_WS_told_83 : decode b_WS_told 83 = .ok (.invokestatic 130, 3) := by decide +kernel
theorem d_WS_told_86 : decode b_WS_told 86 = .ok (.ireturn, 1) := by decide +kernel
theorem d_WS_told_87 : decode b_WS_told 87 = .ok (.aload_n 0, 1) := by decide +kernel
theorem d_WS_told_88 : decode b_WS_told 88 = .ok (.getfield 10, 3) := by decide +kernel
theorem d_WS_told_91 : decode b_WS_told 91 = .ok (.getfield 134, 3) := by decide +kernel
theorem d_WS_told_94 : decode b_WS_told 94 = .ok (.invokestatic 130, 3) := by decide +kernel
theorem d_WS_told_97 : decode b_WS_told 97 = .ok (.ireturn, 1) := by decide +kernel
theorem d_WS_told_98 : decode b_WS_told 98 = .ok (.aload_n 0, 1) := by decide +kernel
theorem d_WS_told_99 : decode b_WS_told 99 = .ok (.invokevirtual 137, 3) := by decide +kernel
theorem d_WS_told_102 : decode b_WS_told 102 = .ok (.ireturn, 1) := by decide +kernel
theorem d_WS_told_103 : decode b_WS_told 103 = .ok (.iconst (-1), 1) := by decide +kernel
theorem d_WS_told_104 : decode b_WS_told 104 = .ok (.ireturn, 1) := by decide +kernel
theorem d_WS_countMarks_0 : decode b_WS_countMarks 0 = .ok (.iconst 0, 1) := by decide +kernel
theorem d_WS_countMarks_1 : decode b_WS_countMarks 1 = .ok (.istore_n 1, 1) := by decide +kernel
theorem d_WS_countMarks_2 : decode b_WS_countMarks 2 = .ok (.aload_n 0, 1) := by decide +kernel
theorem d_WS_countMarks_3 : decode b_WS_countMarks 3 = .ok (.astore_n 2, 1) := by decide +kernel
theorem d_WS_countMarks_4 : decode b_WS_countMarks 4 = .ok (.aload_n 2, 1) := by decide +kernel
theorem d_WS_countMarks_5 : decode b_WS_countMarks 5 = .ok (.arraylength, 1) := by decide +kernel
theorem d_WS_countMarks_6 : decode b_WS_countMarks 6 = .ok (.istore_n 3, 1) := by decide +kernel
theorem d_WS_countMarks_7 : decode b_WS_countMarks 7 = .ok (.iconst 0, 1) := by decide +kernel
theorem d_WS_countMarks_8 : decode b_WS_countMarks 8 = .ok (.istore 4, 2) := by decide +kernel
theorem d_WS_countMarks_10 : decode b_WS_countMarks 10 = .ok (.iload 4, 2) := by decide +kernel
theorem d_WS_countMarks_12 : decode b_WS_countMarks 12 = .ok (.iload_n 3, 1) := by decide +kernel
theorem d_WS_countMarks_13 : decode b_WS_countMarks 13 = .ok (.if_icmp .ge 23, 3) := by decide +kernel
theorem d_WS_countMarks_16 : decode b_WS_countMarks 16 = .ok (.aload_n 2, 1) := by decide +kernel
theorem d_WS_countMarks_17 : decode b_WS_countMarks 17 = .ok (.iload 4, 2) := by decide +kernel
theorem d_WS_countMarks_19 : decode b_WS_countMarks 19 = .ok (.baload, 1) := by decide +kernel
theorem d_WS_countMarks_20 : decode b_WS_countMarks 20 = .ok (.istore 5, 2) := by decide +kernel
theorem d_WS_countMarks_22 : decode b_WS_countMarks 22 = .ok (.iload 5, 2) := by decide +kernel
theorem d_WS_countMarks_24 : decode b_WS_countMarks 24 = .ok (.ifCond .eq 6, 3) := by decide +kernel
theorem d_WS_countMarks_27 : decode b_WS_countMarks 27 = .ok (.iinc 1 1, 3) := by decide +kernel
theorem d_WS_countMarks_30 : decode b_WS_countMarks 30 = .ok (.iinc 4 1, 3) := by decide +kernel
theorem d_WS_countMarks_33 : decode b_WS_countMarks 33 = .ok (.goto (-23), 3) := by decide +kernel
theorem d_WS_countMarks_36 : decode b_WS_countMarks 36 = .ok (.iload_n 1, 1) := by decide +kernel
theorem d_WS_countMarks_37 : decode b_WS_countMarks 37 = .ok (.ireturn, 1) := by decide +kernel
theorem d_WS_countLooseThings_0 : decode b_WS_countLooseThings 0 = .ok (.iconst 0, 1) := by decide +kernel
theorem d_WS_countLooseThings_1 : decode b_WS_countLooseThings 1 = .ok (.istore_n 1, 1) := by decide +kernel
theorem d_WS_countLooseThings_2 : decode b_WS_countLooseThings 2 = .ok (.iconst 0, 1) := by decide +kernel
theorem d_WS_countLooseThings_3 : decode b_WS_countLooseThings 3 = .ok (.istore_n 2, 1) := by decide +kernel
theorem d_WS_countLooseThings_4 : decode b_WS_countLooseThings 4 = .ok (.iload_n 2, 1) := by decide +kernel
theorem d_WS_countLooseThings_5 : decode b_WS_countLooseThings 5 = .ok (.aload_n 0, 1) := by decide +kernel
theorem d_WS_countLooseThings_6 : decode b_WS_countLooseThings 6 = .ok (.getfield 10, 3) := by decide +kernel
theorem d_WS_countLooseThings_9 : decode b_WS_countLooseThings 9 = .ok (.getfield 126, 3) := by decide +kernel
theorem d_WS_countLooseThings_12 : decode b_WS_countLooseThings 12 = .ok (.if_icmp .ge 23, 3) := by decide +kernel
theorem d_WS_countLooseThings_15 : decode b_WS_countLooseThings 15 = .ok (.aload_n 0, 1) := by decide +kernel
theorem d_WS_countLooseThings_16 : decode b_WS_countLooseThings 16 = .ok (.getfield 19, 3) := by decide +kernel
theorem d_WS_countLooseThings_19 : decode b_WS_countLooseThings 19 = .ok (.iload_n 2, 1) := by decide +kernel
theorem d_WS_countLooseThings_20 : decode b_WS_countLooseThings 20 = .ok (.invokevirtual 146, 3) := by decide +kernel
theorem d_WS_countLooseThings_23 : decode b_WS_countLooseThings 23 = .ok (.ifCond .ne 6, 3) := by decide +kernel
theorem d_WS_countLooseThings_26 : decode b_WS_countLooseThings 26 = .ok (.iinc 1 1, 3) := by decide +kernel
theorem d_WS_countLooseThings_29 : decode b_WS_countLooseThings 29 = .ok (.iinc 2 1, 3) := by decide +kernel
theorem d_WS_countLooseThings_32 : decode b_WS_countLooseThings 32 = .ok (.goto (-28), 3) := by decide +kernel
theorem d_WS_countLooseThings_35 : decode b_WS_countLooseThings 35 = .ok (.iload_n 1, 1) := by decide +kernel
theorem d_WS_countLooseThings_36 : decode b_WS_countLooseThings 36 = .ok (.ireturn, 1) := by decide +kernel
theorem d_PI_anyEndsAt_0 : decode b_PI_anyEndsAt 0 = .ok (.iconst 0, 1) := by decide +kernel
theorem d_PI_anyEndsAt_1 : decode b_PI_anyEndsAt 1 = .ok (.istore_n 2, 1) := by decide +kernel
theorem d_PI_anyEndsAt_2 : decode b_PI_anyEndsAt 2 = .ok (.iload_n 2, 1) := by decide +kernel
theorem d_PI_anyEndsAt_3 : decode b_PI_anyEndsAt 3 = .ok (.aload_n 0, 1) := by decide +kernel
theorem d_PI_anyEndsAt_4 : decode b_PI_anyEndsAt 4 = .ok (.getfield 26, 3) := by decide +kernel
theorem d_PI_anyEndsAt_7 : decode b_PI_anyEndsAt 7 = .ok (.if_icmp .ge 31, 3) := by decide +kernel
theorem d_PI_anyEndsAt_10 : decode b_PI_anyEndsAt 10 = .ok (.aload_n 0, 1) := by decide +kernel
theorem d_PI_anyEndsAt_11 : decode b_PI_anyEndsAt 11 = .ok (.getfield 9, 3) := by decide +kernel
theorem d_PI_anyEndsAt_14 : decode b_PI_anyEndsAt 14 = .ok (.iload_n 2, 1) := by decide +kernel
theorem d_PI_anyEndsAt_15 : decode b_PI_anyEndsAt 15 = .ok (.iaload, 1) := by decide +kernel
theorem d_PI_anyEndsAt_16 : decode b_PI_anyEndsAt 16 = .ok (.iload_n 1, 1) := by decide +kernel
theorem d_PI_anyEndsAt_17 : decode b_PI_anyEndsAt 17 = .ok (.if_icmp .eq 13, 3) := by decide +kernel
theorem d_PI_anyEndsAt_20 : decode b_PI_anyEndsAt 20 = .ok (.aload_n 0, 1) := by decide +kernel
theorem d_PI_anyEndsAt_21 : decode b_PI_anyEndsAt 21 = .ok (.getfield 15, 3) := by decide +kernel
theorem d_PI_anyEndsAt_24 : decode b_PI_anyEndsAt 24 = .ok (.iload_n 2, 1) := by decide +kernel
theorem d_PI_anyEndsAt_25 : decode b_PI_anyEndsAt 25 = .ok (.iaload, 1) := by decide +kernel
theorem d_PI_anyEndsAt_26 : decode b_PI_anyEndsAt 26 = .ok (.iload_n 1, 1) := by decide +kernel
theorem d_PI_anyEndsAt_27 : decode b_PI_anyEndsAt 27 = .ok (.if_icmp .ne 5, 3) := by decide +kernel
theorem d_PI_anyEndsAt_30 : decode b_PI_anyEndsAt 30 = .ok (.iconst 1, 1) := by decide +kernel
theorem d_PI_anyEndsAt_31 : decode b_PI_anyEndsAt 31 = .ok (.ireturn, 1) := by decide +kernel
theorem d_PI_anyEndsAt_32 : decode b_PI_anyEndsAt 32 = .ok (.iinc 2 1, 3) := by decide +kernel
theorem d_PI_anyEndsAt_35 : decode b_PI_anyEndsAt 35 = .ok (.goto (-33), 3) := by decide +kernel
theorem d_PI_anyEndsAt_38 : decode b_PI_anyEndsAt 38 = .ok (.iconst 0, 1) := by decide +kernel
theorem d_PI_anyEndsAt_39 : decode b_PI_anyEndsAt 39 = .ok (.ireturn, 1) := by decide +kernel
theorem d_WS_blow_0 : decode b_WS_blow 0 = .ok (.aload_n 0, 1) := by decide +kernel
theorem d_WS_blow_1 : decode b_WS_blow 1 = .ok (.iload_n 1, 1) := by decide +kernel
theorem d_WS_blow_2 : decode b_WS_blow 2 = .ok (.invokevirtual 82, 3) := by decide +kernel
theorem d_WS_blow_5 : decode b_WS_blow 5 = .ok (.astore_n 3, 1) := by decide +kernel
theorem d_WS_blow_6 : decode b_WS_blow 6 = .ok (.aload_n 3, 1) := by decide +kernel
theorem d_WS_blow_7 : decode b_WS_blow 7 = .ok (.ifnonnull 6, 3) := by decide +kernel
theorem d_WS_blow_10 : decode b_WS_blow 10 = .ok (.bipush (-2), 2) := by decide +kernel
theorem d_WS_blow_12 : decode b_WS_blow 12 = .ok (.ireturn, 1) := by decide +kernel
theorem d_WS_blow_13 : decode b_WS_blow 13 = .ok (.aload_n 3, 1) := by decide +kernel
theorem d_WS_blow_14 : decode b_WS_blow 14 = .ok (.getfield 141, 3) := by decide +kernel
theorem d_WS_blow_17 : decode b_WS_blow 17 = .ok (.arraylength, 1) := by decide +kernel
theorem d_WS_blow_18 : decode b_WS_blow 18 = .ok (.iconst 1, 1) := by decide +kernel
theorem d_WS_blow_19 : decode b_WS_blow 19 = .ok (.isub, 1) := by decide +kernel
theorem d_WS_blow_20 : decode b_WS_blow 20 = .ok (.istore 4, 2) := by decide +kernel
theorem d_WS_blow_22 : decode b_WS_blow 22 = .ok (.iload_n 2, 1) := by decide +kernel
theorem d_WS_blow_23 : decode b_WS_blow 23 = .ok (.ifCond .lt 9, 3) := by decide +kernel
theorem d_WS_blow_26 : decode b_WS_blow 26 = .ok (.iload_n 2, 1) := by decide +kernel
theorem d_WS_blow_27 : decode b_WS_blow 27 = .ok (.iload 4, 2) := by decide +kernel
theorem d_WS_blow_29 : decode b_WS_blow 29 = .ok (.if_icmp .le 5, 3) := by decide +kernel
theorem d_WS_blow_32 : decode b_WS_blow 32 = .ok (.iconst (-1), 1) := by decide +kernel
theorem d_WS_blow_33 : decode b_WS_blow 33 = .ok (.ireturn, 1) := by decide +kernel
theorem d_WS_blow_34 : decode b_WS_blow 34 = .ok (.iload 4, 2) := by decide +kernel
theorem d_WS_blow_36 : decode b_WS_blow 36 = .ok (.istore 5, 2) := by decide +kernel
theorem d_WS_blow_38 : decode b_WS_blow 38 = .ok (.iload 5, 2) := by decide +kernel
theorem d_WS_blow_40 : decode b_WS_blow 40 = .ok (.iload 4, 2) := by decide +kernel
theorem d_WS_blow_42 : decode b_WS_blow 42 = .ok (.iload_n 2, 1) := by decide +kernel
theorem d_WS_blow_43 : decode b_WS_blow 43 = .ok (.isub, 1) := by decide +kernel
theorem d_WS_blow_44 : decode b_WS_blow 44 = .ok (.if_icmp .le 28, 3) := by decide +kernel
theorem d_WS_blow_47 : decode b_WS_blow 47 = .ok (.aload_n 0, 1) := by decide +kernel
theorem d_WS_blow_48 : decode b_WS_blow 48 = .ok (.getfield 10, 3) := by decide +kernel
theorem d_WS_blow_51 : decode b_WS_blow 51 = .ok (.aload_n 3, 1) := by decide +kernel
theorem d_WS_blow_52 : decode b_WS_blow 52 = .ok (.iload 5, 2) := by decide +kernel
theorem d_WS_blow_54 : decode b_WS_blow 54 = .ok (.invokevirtual 143, 3) := by decide +kernel
theorem d_WS_blow_57 : decode b_WS_blow 57 = .ok (.iconst 1, 1) := by decide +kernel
theorem d_WS_blow_58 : decode b_WS_blow 58 = .ok (.invokevirtual 93, 3) := by decide +kernel
theorem d_WS_blow_61 : decode b_WS_blow 61 = .ok (.ifCond .eq 5, 3) := by decide +kernel
theorem d_WS_blow_64 : decode b_WS_blow 64 = .ok (.iconst (-1), 1) := by decide +kernel
theorem d_WS_blow_65 : decode b_WS_blow 65 = .ok (.ireturn, 1) := by decide +kernel
theorem d_WS_blow_66 : decode b_WS_blow 66 = .ok (.iinc 5 (-1), 3) := by decide +kernel
theorem d_WS_blow_69 : decode b_WS_blow 69 = .ok (.goto (-31), 3) := by decide +kernel
theorem d_WS_blow_72 : decode b_WS_blow 72 = .ok (.aload_n 3, 1) := by decide +kernel
theorem d_WS_blow_73 : decode b_WS_blow 73 = .ok (.iload 4, 2) := by decide +kernel
theorem d_WS_blow_75 : decode b_WS_blow 75 = .ok (.iload_n 2, 1) := by decide +kernel
theorem d_WS_blow_76 : decode b_WS_blow 76 = .ok (.isub, 1) := by decide +kernel
theorem d_WS_blow_77 : decode b_WS_blow 77 = .ok (.invokevirtual 86, 3) := by decide +kernel
theorem d_WS_blow_80 : decode b_WS_blow 80 = .ok (.ireturn, 1) := by decide +kernel
theorem d_FW_thingAt_0 : decode b_FW_thingAt 0 = .ok (.iload_n 1, 1) := by decide +kernel
theorem d_FW_thingAt_1 : decode b_FW_thingAt 1 = .ok (.ifCond .lt 21, 3) := by decide +kernel
theorem d_FW_thingAt_4 : decode b_FW_thingAt 4 = .ok (.iload_n 1, 1) := by decide +kernel
theorem d_FW_thingAt_5 : decode b_FW_thingAt 5 = .ok (.aload_n 0, 1) := by decide +kernel
theorem d_FW_thingAt_6 : decode b_FW_thingAt 6 = .ok (.getfield 26, 3) := by decide +kernel
theorem d_FW_thingAt_9 : decode b_FW_thingAt 9 = .ok (.arraylength, 1) := by decide +kernel
theorem d_FW_thingAt_10 : decode b_FW_thingAt 10 = .ok (.if_icmp .ge 12, 3) := by decide +kernel
theorem d_FW_thingAt_13 : decode b_FW_thingAt 13 = .ok (.aload_n 0, 1) := by decide +kernel
theorem d_FW_thingAt_14 : decode b_FW_thingAt 14 = .ok (.getfield 26, 3) := by decide +kernel
theorem d_FW_thingAt_17 : decode b_FW_thingAt 17 = .ok (.iload_n 1, 1) := by decide +kernel
theorem d_FW_thingAt_18 : decode b_FW_thingAt 18 = .ok (.iaload, 1) := by decide +kernel
theorem d_FW_thingAt_19 : decode b_FW_thingAt 19 = .ok (.goto 4, 3) := by decide +kernel
theorem d_FW_thingAt_22 : decode b_FW_thingAt 22 = .ok (.iconst (-1), 1) := by decide +kernel
theorem d_FW_thingAt_23 : decode b_FW_thingAt 23 = .ok (.ireturn, 1) := by decide +kernel
end
section
theorem d_MO_init_0 : decode b_MO_init 0 = .ok (.aload_n 0, 1) := by decide +kernel
theorem d_MO_init_1 : decode b_MO_init 1 = .ok (.invokespecial 1, 3) := by decide +kernel
theorem d_MO_init_4 : decode b_MO_init 4 = .ok (.aload_n 0, 1) := by decide +kernel
theorem d_MO_init_5 : decode b_MO_init 5 = .ok (.bipush 48, 2) := by decide +kernel
theorem d_MO_init_7 : decode b_MO_init 7 = .ok (.newarray .int, 2) := by decide +kernel
theorem d_MO_init_9 : decode b_MO_init 9 = .ok (.putfield 9, 3) := by decide +kernel
theorem d_MO_init_12 : decode b_MO_init 12 = .ok (.aload_n 0, 1) := by decide +kernel
theorem d_MO_init_13 : decode b_MO_init 13 = .ok (.bipush 48, 2) := by decide +kernel
theorem d_MO_init_15 : decode b_MO_init 15 = .ok (.newarray .boolean, 2) := by decide +kernel
theorem d_MO_init_17 : decode b_MO_init 17 = .ok (.putfield 13, 3) := by decide +kernel
theorem d_MO_init_20 : decode b_MO_init 20 = .ok (.aload_n 0, 1) := by decide +kernel
theorem d_MO_init_21 : decode b_MO_init 21 = .ok (.bipush 48, 2) := by decide +kernel
theorem d_MO_init_23 : decode b_MO_init 23 = .ok (.newarray .boolean, 2) := by decide +kernel
theorem d_MO_init_25 : decode b_MO_init 25 = .ok (.putfield 17, 3) := by decide +kernel
theorem d_MO_init_28 : decode b_MO_init 28 = .ok (.aload_n 0, 1) := by decide +kernel
theorem d_MO_init_29 : decode b_MO_init 29 = .ok (.bipush 48, 2) := by decide +kernel
theorem d_MO_init_31 : decode b_MO_init 31 = .ok (.newarray .int, 2) := by decide +kernel
theorem d_MO_init_33 : decode b_MO_init 33 = .ok (.putfield 20, 3) := by decide +kernel
theorem d_MO_init_36 : decode b_MO_init 36 = .ok (.aload_n 0, 1) := by decide +kernel
theorem d_MO_init_37 : decode b_MO_init 37 = .ok (.bipush 48, 2) := by decide +kernel
theorem d_MO_init_39 : decode b_MO_init 39 = .ok (.newarray .int, 2) := by decide +kernel
theorem d_MO_init_41 : decode b_MO_init 41 = .ok (.putfield 23, 3) := by decide +kernel
theorem d_MO_init_44 : decode b_MO_init 44 = .ok (.aload_n 0, 1) := by decide +kernel
theorem d_MO_init_45 : decode b_MO_init 45 = .ok (.bipush 96, 2) := by decide +kernel
theorem d_MO_init_47 : decode b_MO_init 47 = .ok (.newarray .int, 2) := by decide +kernel
theorem d_MO_init_49 : decode b_MO_init 49 = .ok (.putfield 26, 3) := by decide +kernel
theorem d_MO_init_52 : decode b_MO_init 52 = .ok (.aload_n 0, 1) := by decide +kernel
theorem d_MO_init_53 : decode b_MO_init 53 = .ok (.bipush 96, 2) := by decide +kernel
theorem d_MO_init_55 : decode b_MO_init 55 = .ok (.newarray .int, 2) := by decide +kernel
theorem d_MO_init_57 : decode b_MO_init 57 = .ok (.putfield 29, 3) := by decide +kernel
theorem d_MO_init_60 : decode b_MO_init 60 = .ok (.aload_n 0, 1) := by decide +kernel
theorem d_MO_init_61 : decode b_MO_init 61 = .ok (.bipush 96, 2) := by decide +kernel
theorem d_MO_init_63 : decode b_MO_init 63 = .ok (.newarray .long, 2) := by decide +kernel
theorem d_MO_init_65 : decode b_MO_init 65 = .ok (.putfield 32, 3) := by decide +kernel
theorem d_MO_init_68 : decode b_MO_init 68 = .ok (.aload_n 0, 1) := by decide +kernel
theorem d_MO_init_69 : decode b_MO_init 69 = .ok (.bipush 96, 2) := by decide +kernel
theorem d_MO_init_71 : decode b_MO_init 71 = .ok (.newarray .boolean, 2) := by decide +kernel
theorem d_MO_init_73 : decode b_MO_init 73 = .ok (.putfield 36, 3) := by decide +kernel
theorem d_MO_init_76 : decode b_MO_init 76 = .ok (.aload_n 0, 1) := by decide +kernel
theorem d_MO_init_77 : decode b_MO_init 77 = .ok (.sipush 3072, 3) := by decide +kernel
theorem d_MO_init_80 : decode b_MO_init 80 = .ok (.newarray .int, 2) := by decide +kernel
theorem d_MO_init_82 : decode b_MO_init 82 = .ok (.putfield 39, 3) := by decide +kernel
theorem d_MO_init_85 : decode b_MO_init 85 = .ok (.aload_n 0, 1) := by decide +kernel
theorem d_MO_init_86 : decode b_MO_init 86 = .ok (.bipush 64, 2) := by decide +kernel
theorem d_MO_init_88 : decode b_MO_init 88 = .ok (.newarray .int, 2) := by decide +kernel
theorem d_MO_init_90 : decode b_MO_init 90 = .ok (.putfield 42, 3) := by decide +kernel
theorem d_MO_init_93 : decode b_MO_init 93 = .ok (.aload_n 0, 1) := by decide +kernel
theorem d_MO_init_94 : decode b_MO_init 94 = .ok (.bipush 64, 2) := by decide +kernel
theorem d_MO_init_96 : decode b_MO_init 96 = .ok (.newarray .int, 2) := by decide +kernel
theorem d_MO_init_98 : decode b_MO_init 98 = .ok (.putfield 45, 3) := by decide +kernel
theorem d_MO_init_101 : decode b_MO_init 101 = .ok (.aload_n 0, 1) := by decide +kernel
theorem d_MO_init_102 : decode b_MO_init 102 = .ok (.bipush 64, 2) := by decide +kernel
theorem d_MO_init_104 : decode b_MO_init 104 = .ok (.newarray .int, 2) := by decide +kernel
theorem d_MO_init_106 : decode b_MO_init 106 = .ok (.putfield 48, 3) := by decide +kernel
theorem d_MO_init_109 : decode b_MO_init 109 = .ok (.aload_n 0, 1) := by decide +kernel
theorem d_MO_init_110 : decode b_MO_init 110 = .ok (.bipush 48, 2) := by decide +kernel
theorem d_MO_init_112 : decode b_MO_init 112 = .ok (.newarray .long, 2) := by decide +kernel
theorem d_MO_init_114 : decode b_MO_init 114 = .ok (.putfield 51, 3) := by decide +kernel
theorem d_MO_init_117 : decode b_MO_init 117 = .ok (.aload_n 0, 1) := by decide +kernel
theorem d_MO_init_118 : decode b_MO_init 118 = .ok (.bipush 48, 2) := by decide +kernel
theorem d_MO_init_120 : decode b_MO_init 120 = .ok (.newarray .boolean, 2) := by decide +kernel
theorem d_MO_init_122 : decode b_MO_init 122 = .ok (.putfield 54, 3) := by decide +kernel
theorem d_MO_init_125 : decode b_MO_init 125 = .ok (.aload_n 0, 1) := by decide +kernel
theorem d_MO_init_126 : decode b_MO_init 126 = .ok (.bipush 96, 2) := by decide +kernel
theorem d_MO_init_128 : decode b_MO_init 128 = .ok (.newarray .boolean, 2) := by decide +kernel
theorem d_MO_init_130 : decode b_MO_init 130 = .ok (.putfield 57, 3) := by decide +kernel
theorem d_MO_init_133 : decode b_MO_init 133 = .ok (.aload_n 0, 1) := by decide +kernel
theorem d_MO_init_134 : decode b_MO_init 134 = .ok (.bipush 48, 2) := by decide +kernel
theorem d_MO_init_136 : decode b_MO_init 136 = .ok (.newarray .int, 2) := by decide +kernel
theorem d_MO_init_138 : decode b_MO_init 138 = .ok (.putfield 60, 3) := by decide +kernel
theorem d_MO_init_141 : decode b_MO_init 141 = .ok (.aload_n 0, 1) := by decide +kernel
theorem d_MO_init_142 : decode b_MO_init 142 = .ok (.bipush 48, 2) := by decide +kernel
theorem d_MO_init_144 : decode b_MO_init 144 = .ok (.newarray .int, 2) := by decide +kernel
theorem d_MO_init_146 : decode b_MO_init 146 = .ok (.putfield 63, 3) := by decide +kernel
theorem d_MO_init_149 : decode b_MO_init 149 = .ok (.return_, 1) := by decide +kernel
theorem d_MO_tank_0 : decode b_MO_tank 0 = .ok (.aload_n 0, 1) := by decide +kernel
theorem d_MO_tank_1 : decode b_MO_tank 1 = .ok (.iconst 0, 1) := by decide +kernel
theorem d_MO_tank_2 : decode b_MO_tank 2 = .ok (.invokevirtual 70, 3) := by decide +kernel
theorem d_MO_tank_5 : decode b_MO_tank 5 = .ok (.istore_n 2, 1) := by decide +kernel
theorem d_MO_tank_6 : decode b_MO_tank 6 = .ok (.iload_n 2, 1) := by decide +kernel
theorem d_MO_tank_7 : decode b_MO_tank 7 = .ok (.ifCond .lt 10, 3) := by decide +kernel
theorem d_MO_tank_10 : decode b_MO_tank 10 = .ok (.aload_n 0, 1) := by decide +kernel
theorem d_MO_tank_11 : decode b_MO_tank 11 = .ok (.getfield 13, 3) := by decide +kernel
theorem d_MO_tank_14 : decode b_MO_tank 14 = .ok (.iload_n 2, 1) := by decide +kernel
theorem d_MO_tank_15 : decode b_MO_tank 15 = .ok (.iload_n 1, 1) := by decide +kernel
theorem d_MO_tank_16 : decode b_MO_tank 16 = .ok (.bastore, 1) := by decide +kernel
theorem d_MO_tank_17 : decode b_MO_tank 17 = .ok (.iload_n 2, 1) := by decide +kernel
theorem d_MO_tank_18 : decode b_MO_tank 18 = .ok (.ireturn, 1) := by decide +kernel
theorem d_MO_thing_0 : decode b_MO_thing 0 = .ok (.aload_n 0, 1) := by decide +kernel
theorem d_MO_thing_1 : decode b_MO_thing 1 = .ok (.getfield 66, 3) := by decide +kernel
theorem d_MO_thing_4 : decode b_MO_thing 4 = .ok (.bipush 48, 2) := by decide +kernel
theorem d_MO_thing_6 : decode b_MO_thing 6 = .ok (.if_icmp .ne 6, 3) := by decide +kernel
theorem d_MO_thing_9 : decode b_MO_thing 9 = .ok (.bipush (-5), 2) := by decide +kernel
theorem d_MO_thing_11 : decode b_MO_thing 11 = .ok (.ireturn, 1) := by decide +kernel
theorem d_MO_thing_12 : decode b_MO_thing 12 = .ok (.aload_n 0, 1) := by decide +kernel
theorem d_MO_thing_13 : decode b_MO_thing 13 = .ok (.getfield 9, 3) := by decide +kernel
theorem d_MO_thing_16 : decode b_MO_thing 16 = .ok (.aload_n 0, 1) := by decide +kernel
theorem d_MO_thing_17 : decode b_MO_thing 17 = .ok (.getfield 66, 3) := by decide +kernel
theorem d_MO_thing_20 : decode b_MO_thing 20 = .ok (.iload_n 1, 1) := by decide +kernel
theorem d_MO_thing_21 : decode b_MO_thing 21 = .ok (.iastore, 1) := by decide +kernel
theorem d_MO_thing_22 : decode b_MO_thing 22 = .ok (.aload_n 0, 1) := by decide +kernel
theorem d_MO_thing_23 : decode b_MO_thing 23 = .ok (.getfield 20, 3) := by decide +kernel
theorem d_MO_thing_26 : decode b_MO_thing 26 = .ok (.aload_n 0, 1) := by decide +kernel
theorem d_MO_thing_27 : decode b_MO_thing 27 = .ok (.getfield 66, 3) := by decide +kernel
theorem d_MO_thing_30 : decode b_MO_thing 30 = .ok (.iconst (-1), 1) := by decide +kernel
theorem d_MO_thing_31 : decode b_MO_thing 31 = .ok (.iastore, 1) := by decide +kernel
theorem d_MO_thing_32 : decode b_MO_thing 32 = .ok (.aload_n 0, 1) := by decide +kernel
theorem d_MO_thing_33 : decode b_MO_thing 33 = .ok (.getfield 23, 3) := by decide +kernel
theorem d_MO_thing_36 : decode b_MO_thing 36 = .ok (.aload_n 0, 1) := by decide +kernel
theorem d_MO_thing_37 : decode b_MO_thing 37 = .ok (.getfield 66, 3) := by decide +kernel
theorem d_MO_thing_40 : decode b_MO_thing 40 = .ok (.iconst (-1), 1) := by decide +kernel
theorem d_MO_thing_41 : decode b_MO_thing 41 = .ok (.iastore, 1) := by decide +kernel
theorem d_MO_thing_42 : decode b_MO_thing 42 = .ok (.aload_n 0, 1) := by decide +kernel
theorem d_MO_thing_43 : decode b_MO_thing 43 = .ok (.dup, 1) := by decide +kernel
theorem d_MO_thing_44 : decode b_MO_thing 44 = .ok (.getfield 66, 3) := by decide +kernel
theorem d_MO_thing_47 : decode b_MO_thing 47 = .ok (.iconst 1, 1) := by decide +kernel
theorem d_MO_thing_48 : decode b_MO_thing 48 = .ok (.iadd, 1) := by decide +kernel
theorem d_MO_thing_49 : decode b_MO_thing 49 = .ok (.putfield 66, 3) := by decide +kernel
theorem d_MO_thing_52 : decode b_MO_thing 52 = .ok (.aload_n 0, 1) := by decide +kernel
theorem d_MO_thing_53 : decode b_MO_thing 53 = .ok (.getfield 66, 3) := by decide +kernel
theorem d_MO_thing_56 : decode b_MO_thing 56 = .ok (.iconst 1, 1) := by decide +kernel
theorem d_MO_thing_57 : decode b_MO_thing 57 = .ok (.isub, 1) := by decide +kernel
theorem d_MO_thing_58 : decode b_MO_thing 58 = .ok (.ireturn, 1) := by decide +kernel
theorem d_MO_pump_0 : decode b_MO_pump 0 = .ok (.aload_n 0, 1) := by decide +kernel
theorem d_MO_pump_1 : decode b_MO_pump 1 = .ok (.iconst 1, 1) := by decide +kernel
theorem d_MO_pump_2 : decode b_MO_pump 2 = .ok (.invokevirtual 70, 3) := by decide +kernel
theorem d_MO_pump_5 : decode b_MO_pump 5 = .ok (.ireturn, 1) := by decide +kernel
theorem d_MO_valve_0 : decode b_MO_valve 0 = .ok (.aload_n 0, 1) := by decide +kernel
theorem d_MO_valve_1 : decode b_MO_valve 1 = .ok (.iconst 2, 1) := by decide +kernel
theorem d_MO_valve_2 : decode b_MO_valve 2 = .ok (.invokevirtual 70, 3) := by decide +kernel
theorem d_MO_valve_5 : decode b_MO_valve 5 = .ok (.ireturn, 1) := by decide +kernel
theorem d_MO_pipe_0 : decode b_MO_pipe 0 = .ok (.aload_n 0, 1) := by decide +kernel
theorem d_MO_pipe_1 : decode b_MO_pipe 1 = .ok (.iload_n 1, 1) := by decide +kernel
theorem d_MO_pipe_2 : decode b_MO_pipe 2 = .ok (.invokevirtual 74, 3) := by decide +kernel
theorem d_MO_pipe_5 : decode b_MO_pipe 5 = .ok (.ifCond .eq 11, 3) := by decide +kernel
theorem d_MO_pipe_8 : decode b_MO_pipe 8 = .ok (.aload_n 0, 1) := by decide +kernel
theorem d_MO_pipe_9 : decode b_MO_pipe 9 = .ok (.iload_n 2, 1) := by decide +kernel
theorem d_MO_pipe_10 : decode b_MO_pipe 10 = .ok (.invokevirtual 74, 3) := by decide +kernel
theorem d_MO_pipe_13 : decode b_MO_pipe 13 = .ok (.ifCond .ne 6, 3) := by decide +kernel
theorem d_MO_pipe_16 : decode b_MO_pipe 16 = .ok (.bipush (-2), 2) := by decide +kernel
theorem d_MO_pipe_18 : decode b_MO_pipe 18 = .ok (.ireturn, 1) := by decide +kernel
theorem d_MO_pipe_19 : decode b_MO_pipe 19 = .ok (.iload_n 1, 1) := by decide +kernel
theorem d_MO_pipe_20 : decode b_MO_pipe 20 = .ok (.iload_n 2, 1) := by decide +kernel
theorem d_MO_pipe_21 : decode b_MO_pipe 21 = .ok (.if_icmp .eq 17, 3) := by decide +kernel
theorem d_MO_pipe_24 : decode b_MO_pipe 24 = .ok (.lload_n 3, 1) := by decide +kernel
theorem d_MO_pipe_25 : decode b_MO_pipe 25 = .ok (.lconst 1, 1) := by decide +kernel
theorem d_MO_pipe_26 : decode b_MO_pipe 26 = .ok (.lcmp, 1) := by decide +kernel
theorem d_MO_pipe_27 : decode b_MO_pipe 27 = .ok (.ifCond .lt 11, 3) := by decide +kernel
theorem d_MO_pipe_30 : decode b_MO_pipe 30 = .ok (.lload_n 3, 1) := by decide +kernel
theorem d_MO_pipe_31 : decode b_MO_pipe 31 = .ok (.ldc2_w 78, 3) := by decide +kernel
theorem d_MO_pipe_34 : decode b_MO_pipe 34 = .ok (.lcmp, 1) := by decide +kernel
theorem d_MO_pipe_35 : decode b_MO_pipe 35 = .ok (.ifCond .le 5, 3) := by decide +kernel
theorem d_MO_pipe_38 : decode b_MO_pipe 38 = .ok (.iconst (-1), 1) := by decide +kernel
theorem d_MO_pipe_39 : decode b_MO_pipe 39 = .ok (.ireturn, 1) := by decide +kernel
theorem d_MO_pipe_40 : decode b_MO_pipe 40 = .ok (.aload_n 0, 1) := by decide +kernel
theorem d_MO_pipe_41 : decode b_MO_pipe 41 = .ok (.getfield 80, 3) := by decide +kernel
theorem d_MO_pipe_44 : decode b_MO_pipe 44 = .ok (.bipush 96, 2) := by decide +kernel
theorem d_MO_pipe_46 : decode b_MO_pipe 46 = .ok (.if_icmp .ne 6, 3) := by decide +kernel
theorem d_MO_pipe_49 : decode b_MO_pipe 49 = .ok (.bipush (-5), 2) := by decide +kernel
theorem d_MO_pipe_51 : decode b_MO_pipe 51 = .ok (.ireturn, 1) := by decide +kernel
theorem d_MO_pipe_52 : decode b_MO_pipe 52 = .ok (.aload_n 0, 1) := by decide +kernel
theorem d_MO_pipe_53 : decode b_MO_pipe 53 = .ok (.getfield 26, 3) := by decide +kernel
theorem d_MO_pipe_56 : decode b_MO_pipe 56 = .ok (.aload_n 0, 1) := by decide +kernel
theorem d_MO_pipe_57 : decode b_MO_pipe 57 = .ok (.getfield 80, 3) := by decide +kernel
theorem d_MO_pipe_60 : decode b_MO_pipe 60 = .ok (.iload_n 1, 1) := by decide +kernel
theorem d_MO_pipe_61 : decode b_MO_pipe 61 = .ok (.iastore, 1) := by decide +kernel
theorem d_MO_pipe_62 : decode b_MO_pipe 62 = .ok (.aload_n 0, 1) := by decide +kernel
theorem d_MO_pipe_63 : decode b_MO_pipe 63 = .ok (.getfield 29, 3) := by decide +kernel
theorem d_MO_pipe_66 : decode b_MO_pipe 66 = .ok (.aload_n 0, 1) := by decide +kernel
theorem d_MO_pipe_67 : decode b_MO_pipe 67 = .ok (.getfield 80, 3) := by decide +kernel
theorem d_MO_pipe_70 : decode b_MO_pipe 70 = .ok (.iload_n 2, 1) := by decide +kernel
theorem d_MO_pipe_71 : decode b_MO_pipe 71 = .ok (.iastore, 1) := by decide +kernel
theorem d_MO_pipe_72 : decode b_MO_pipe 72 = .ok (.aload_n 0, 1) := by decide +kernel
theorem d_MO_pipe_73 : decode b_MO_pipe 73 = .ok (.getfield 32, 3) := by decide +kernel
theorem d_MO_pipe_76 : decode b_MO_pipe 76 = .ok (.aload_n 0, 1) := by decide +kernel
theorem d_MO_pipe_77 : decode b_MO_pipe 77 = .ok (.getfield 80, 3) := by decide +kernel
theorem d_MO_pipe_80 : decode b_MO_pipe 80 = .ok (.lload_n 3, 1) := by decide +kernel
theorem d_MO_pipe_81 : decode b_MO_pipe 81 = .ok (.lastore, 1) := by decide +kernel
theorem d_MO_pipe_82 : decode b_MO_pipe 82 = .ok (.aload_n 0, 1) := by decide +kernel
theorem d_MO_pipe_83 : decode b_MO_pipe 83 = .ok (.dup, 1) := by decide +kernel
theorem d_MO_pipe_84 : decode b_MO_pipe 84 = .ok (.getfield 80, 3) := by decide +kernel
theorem d_MO_pipe_87 : decode b_MO_pipe 87 = .ok (.iconst 1, 1) := by decide +kernel
theorem d_MO_pipe_88 : decode b_MO_pipe 88 = .ok (.iadd, 1) := by decide +kernel
theorem d_MO_pipe_89 : decode b_MO_pipe 89 = .ok (.putfield 80, 3) := by decide +kernel
theorem d_MO_pipe_92 : decode b_MO_pipe 92 = .ok (.aload_n 0, 1) := by decide +kernel
theorem d_MO_pipe_93 : decode b_MO_pipe 93 = .ok (.getfield 80, 3) := by decide +kernel
theorem d_MO_pipe_96 : decode b_MO_pipe 96 = .ok (.iconst 1, 1) := by decide +kernel
theorem d_MO_pipe_97 : decode b_MO_pipe 97 = .ok (.isub, 1) := by decide +kernel
theorem d_MO_pipe_98 : decode b_MO_pipe 98 = .ok (.ireturn, 1) := by decide +kernel
theorem d_MO_isThing_0 : decode b_MO_isThing 0 = .ok (.iload_n 1, 1) := by decide +kernel
theorem d_MO_isThing_1 : decode b_MO_isThing 1 = .ok (.ifCond .lt 15, 3) := by decide +kernel
theorem d_MO_isThing_4 : decode b_MO_isThing 4 = .ok (.iload_n 1, 1) := by decide +kernel
theorem d_MO_isThing_5 : decode b_MO_isThing 5 = .ok (.aload_n 0, 1) := by decide +kernel
theorem d_MO_isThing_6 : decode b_MO_isThing 6 = .ok (.getfield 66, 3) := by decide +kernel
theorem d_MO_isThing_9 : decode b_MO_isThing 9 = .ok (.if_icmp .ge 7, 3) := by decide +kernel
theorem d_MO_isThing_12 : decode b_MO_isThing 12 = .ok (.iconst 1, 1) := by decide +kernel
theorem d_MO_isThing_13 : decode b_MO_isThing 13 = .ok (.goto 4, 3) := by decide +kernel
theorem d_MO_isThing_16 : decode b_MO_isThing 16 = .ok (.iconst 0, 1) := by decide +kernel
theorem d_MO_isThing_17 : decode b_MO_isThing 17 = .ok (.ireturn, 1) := by decide +kernel
theorem d_MO_run_0 : decode b_MO_run 0 = .ok (.iload_n 1, 1) := by decide +kernel
theorem d_MO_run_1 : decode b_MO_run 1 = .ok (.ifCond .lt 21, 3) := by decide +kernel
theorem d_MO_run_4 : decode b_MO_run 4 = .ok (.iload_n 1, 1) := by decide +kernel
theorem d_MO_run_5 : decode b_MO_run 5 = .ok (.aload_n 0, 1) := by decide +kernel
theorem d_MO_run_6 : decode b_MO_run 6 = .ok (.getfield 80, 3) := by decide +kernel
theorem d_MO_run_9 : decode b_MO_run 9 = .ok (.if_icmp .ge 13, 3) := by decide +kernel
theorem d_MO_run_12 : decode b_MO_run 12 = .ok (.aload_n 0, 1) := by decide +kernel
theorem d_MO_run_13 : decode b_MO_run 13 = .ok (.getfield 36, 3) := by decide +kernel
theorem d_MO_run_16 : decode b_MO_run 16 = .ok (.iload_n 1, 1) := by decide +kernel
theorem d_MO_run_17 : decode b_MO_run 17 = .ok (.baload, 1) := by decide +kernel
theorem d_MO_run_18 : decode b_MO_run 18 = .ok (.iload_n 2, 1) := by decide +kernel
theorem d_MO_run_19 : decode b_MO_run 19 = .ok (.if_icmp .ne 5, 3) := by decide +kernel
theorem d_MO_run_22 : decode b_MO_run 22 = .ok (.iconst 0, 1) := by decide +kernel
theorem d_MO_run_23 : decode b_MO_run 23 = .ok (.ireturn, 1) := by decide +kernel
theorem d_MO_run_24 : decode b_MO_run 24 = .ok (.aload_n 0, 1) := by decide +kernel
theorem d_MO_run_25 : decode b_MO_run 25 = .ok (.getfield 36, 3) := by decide +kernel
theorem d_MO_run_28 : decode b_MO_run 28 = .ok (.iload_n 1, 1) := by decide +kernel
theorem d_MO_run_29 : decode b_MO_run 29 = .ok (.iload_n 2, 1) := by decide +kernel
theorem d_MO_run_30 : decode b_MO_run 30 = .ok (.bastore, 1) := by decide +kernel
theorem d_MO_run_31 : decode b_MO_run 31 = .ok (.iconst 1, 1) := by decide +kernel
theorem d_MO_run_32 : decode b_MO_run 32 = .ok (.ireturn, 1) := by decide +kernel
theorem d_MO_bar_0 : decode b_MO_bar 0 = .ok (.aload_n 0, 1) := by decide +kernel
theorem d_MO_bar_1 : decode b_MO_bar 1 = .ok (.iload_n 1, 1) := by decide +kernel
theorem d_MO_bar_2 : decode b_MO_bar 2 = .ok (.invokevirtual 74, 3) := by decide +kernel
theorem d_MO_bar_5 : decode b_MO_bar 5 = .ok (.ifCond .eq 13, 3) := by decide +kernel
theorem d_MO_bar_8 : decode b_MO_bar 8 = .ok (.aload_n 0, 1) := by decide +kernel
theorem d_MO_bar_9 : decode b_MO_bar 9 = .ok (.getfield 17, 3) := by decide +kernel
theorem d_MO_bar_12 : decode b_MO_bar 12 = .ok (.iload_n 1, 1) := by decide +kernel
theorem d_MO_bar_13 : decode b_MO_bar 13 = .ok (.baload, 1) := by decide +kernel
theorem d_MO_bar_14 : decode b_MO_bar 14 = .ok (.iload_n 2, 1) := by decide +kernel
theorem d_MO_bar_15 : decode b_MO_bar 15 = .ok (.if_icmp .ne 5, 3) := by decide +kernel
theorem d_MO_bar_18 : decode b_MO_bar 18 = .ok (.iconst 0, 1) := by decide +kernel
theorem d_MO_bar_19 : decode b_MO_bar 19 = .ok (.ireturn, 1) := by decide +kernel
theorem d_MO_bar_20 : decode b_MO_bar 20 = .ok (.aload_n 0, 1) := by decide +kernel
theorem d_MO_bar_21 : decode b_MO_bar 21 = .ok (.getfield 17, 3) := by decide +kernel
theorem d_MO_bar_24 : decode b_MO_bar 24 = .ok (.iload_n 1, 1) := by decide +kernel
theorem d_MO_bar_25 : decode b_MO_bar 25 = .ok (.iload_n 2, 1) := by decide +kernel
theorem d_MO_bar_26 : decode b_MO_bar 26 = .ok (.bastore, 1) := by decide +kernel
theorem d_MO_bar_27 : decode b_MO_bar 27 = .ok (.iconst 1, 1) := by decide +kernel
theorem d_MO_bar_28 : decode b_MO_bar 28 = .ok (.ireturn, 1) := by decide +kernel
theorem d_MO_forward_0 : decode b_MO_forward 0 = .ok (.aload_n 0, 1) := by decide +kernel
theorem d_MO_forward_1 : decode b_MO_forward 1 = .ok (.iload_n 1, 1) := by decide +kernel
theorem d_MO_forward_2 : decode b_MO_forward 2 = .ok (.invokevirtual 74, 3) := by decide +kernel
theorem d_MO_forward_5 : decode b_MO_forward 5 = .ok (.ifCond .eq 52, 3) := by decide +kernel
theorem d_MO_forward_8 : decode b_MO_forward 8 = .ok (.aload_n 0, 1) := by decide +kernel
theorem d_MO_forward_9 : decode b_MO_forward 9 = .ok (.getfield 9, 3) := by decide +kernel
theorem d_MO_forward_12 : decode b_MO_forward 12 = .ok (.iload_n 1, 1) := by decide +kernel
theorem d_MO_forward_13 : decode b_MO_forward 13 = .ok (.iaload, 1) := by decide +kernel
theorem d_MO_forward_14 : decode b_MO_forward 14 = .ok (.iconst 1, 1) := by decide +kernel
theorem d_MO_forward_15 : decode b_MO_forward 15 = .ok (.if_icmp .ne 42, 3) := by decide +kernel
theorem d_MO_forward_18 : decode b_MO_forward 18 = .ok (.aload_n 0, 1) := by decide +kernel
theorem d_MO_forward_19 : decode b_MO_forward 19 = .ok (.iload_n 2, 1) := by decide +kernel
theorem d_MO_forward_20 : decode b_MO_forward 20 = .ok (.invokevirtual 74, 3) := by decide +kernel
theorem d_MO_forward_23 : decode b_MO_forward 23 = .ok (.ifCond .eq 34, 3) := by decide +kernel
theorem d_MO_forward_26 : decode b_MO_forward 26 = .ok (.aload_n 0, 1) := by decide +kernel
theorem d_MO_forward_27 : decode b_MO_forward 27 = .ok (.iload_n 3, 1) := by decide +kernel
theorem d_MO_forward_28 : decode b_MO_forward 28 = .ok (.invokevirtual 74, 3) := by decide +kernel
theorem d_MO_forward_31 : decode b_MO_forward 31 = .ok (.ifCond .eq 26, 3) := by decide +kernel
theorem d_MO_forward_34 : decode b_MO_forward 34 = .ok (.iload_n 2, 1) := by decide +kernel
theorem d_MO_forward_35 : decode b_MO_forward 35 = .ok (.iload_n 3, 1) := by decide +kernel
theorem d_MO_forward_36 : decode b_MO_forward 36 = .ok (.if_icmp .eq 21, 3) := by decide +kernel
theorem d_MO_forward_39 : decode b_MO_forward 39 = .ok (.aload_n 0, 1) := by decide +kernel
theorem d_MO_forward_40 : decode b_MO_forward 40 = .ok (.iload_n 1, 1) := by decide +kernel
theorem d_MO_forward_41 : decode b_MO_forward 41 = .ok (.iload_n 2, 1) := by decide +kernel
theorem d_MO_forward_42 : decode b_MO_forward 42 = .ok (.invokevirtual 87, 3) := by decide +kernel
theorem d_MO_forward_45 : decode b_MO_forward 45 = .ok (.ifCond .eq 12, 3) := by decide +kernel
theorem d_MO_forward_48 : decode b_MO_forward 48 = .ok (.aload_n 0, 1) := by decide +kernel
theorem d_MO_forward_49 : decode b_MO_forward 49 = .ok (.iload_n 1, 1) := by decide +kernel
theorem d_MO_forward_50 : decode b_MO_forward 50 = .ok (.iload_n 3, 1) := by decide +kernel
theorem d_MO_forward_51 : decode b_MO_forward 51 = .ok (.invokevirtual 87, 3) := by decide +kernel
theorem d_MO_forward_54 : decode b_MO_forward 54 = .ok (.ifCond .ne 5, 3) := by decide +kernel
theorem d_MO_forward_57 : decode b_MO_forward 57 = .ok (.iconst 0, 1) := by decide +kernel
theorem d_MO_forward_58 : decode b_MO_forward 58 = .ok (.ireturn, 1) := by decide +kernel
theorem d_MO_forward_59 : decode b_MO_forward 59 = .ok (.aload_n 0, 1) := by decide +kernel
theorem d_MO_forward_60 : decode b_MO_forward 60 = .ok (.getfield 20, 3) := by decide +kernel
theorem d_MO_forward_63 : decode b_MO_forward 63 = .ok (.iload_n 1, 1) := by decide +kernel
theorem d_MO_forward_64 : decode b_MO_forward 64 = .ok (.iload_n 2, 1) := by decide +kernel
theorem d_MO_forward_65 : decode b_MO_forward 65 = .ok (.iastore, 1) := by decide +kernel
theorem d_MO_forward_66 : decode b_MO_forward 66 = .ok (.aload_n 0, 1) := by decide +kernel
theorem d_MO_forward_67 : decode b_MO_forward 67 = .ok (.getfield 23, 3) := by decide +kernel
theorem d_MO_forward_70 : decode b_MO_forward 70 = .ok (.iload_n 1, 1) := by decide +kernel
theorem d_MO_forward_71 : decode b_MO_forward 71 = .ok (.iload_n 3, 1) := by decide +kernel
theorem d_MO_forward_72 : decode b_MO_forward 72 = .ok (.iastore, 1) := by decide +kernel
theorem d_MO_forward_73 : decode b_MO_forward 73 = .ok (.iconst 1, 1) := by decide +kernel
theorem d_MO_forward_74 : decode b_MO_forward 74 = .ok (.ireturn, 1) := by decide +kernel
theorem d_MO_areJoined_0 : decode b_MO_areJoined 0 = .ok (.iconst 0, 1) := by decide +kernel
theorem d_MO_areJoined_1 : decode b_MO_areJoined 1 = .ok (.istore_n 3, 1) := by decide +kernel
theorem d_MO_areJoined_2 : decode b_MO_areJoined 2 = .ok (.iconst 0, 1) := by decide +kernel
theorem d_MO_areJoined_3 : decode b_MO_areJoined 3 = .ok (.istore 4, 2) := by decide +kernel
theorem d_MO_areJoined_5 : decode b_MO_areJoined 5 = .ok (.iload 4, 2) := by decide +kernel
theorem d_MO_areJoined_7 : decode b_MO_areJoined 7 = .ok (.aload_n 0, 1) := by decide +kernel
theorem d_MO_areJoined_8 : decode b_MO_areJoined 8 = .ok (.getfield 80, 3) := by decide +kernel
theorem d_MO_areJoined_11 : decode b_MO_areJoined 11 = .ok (.if_icmp .ge 20, 3) := by decide +kernel
theorem d_MO_areJoined_14 : decode b_MO_areJoined 14 = .ok (.iload_n 3, 1) := by decide +kernel
theorem d_MO_areJoined_15 : decode b_MO_areJoined 15 = .ok (.aload_n 0, 1) := by decide +kernel
theorem d_MO_areJoined_16 : decode b_MO_areJoined 16 = .ok (.iload 4, 2) := by decide +kernel
theorem d_MO_areJoined_18 : decode b_MO_areJoined 18 = .ok (.iload_n 1, 1) := by decide +kernel
theorem d_MO_areJoined_19 : decode b_MO_areJoined 19 = .ok (.iload_n 2, 1) := by decide +kernel
theorem d_MO_areJoined_20 : decode b_MO_areJoined 20 = .ok (.invokevirtual 83, 3) := by decide +kernel
theorem d_MO_areJoined_23 : decode b_MO_areJoined 23 = .ok (.ior, 1) := by decide +kernel
theorem d_MO_areJoined_24 : decode b_MO_areJoined 24 = .ok (.istore_n 3, 1) := by decide +kernel
theorem d_MO_areJoined_25 : decode b_MO_areJoined 25 = .ok (.iinc 4 1, 3) := by decide +kernel
theorem d_MO_areJoined_28 : decode b_MO_areJoined 28 = .ok (.goto (-23), 3) := by decide +kernel
theorem d_MO_areJoined_31 : decode b_MO_areJoined 31 = .ok (.iload_n 3, 1) := by decide +kernel
theorem d_MO_areJoined_32 : decode b_MO_areJoined 32 = .ok (.ireturn, 1) := by decide +kernel
theorem d_MO_joins_0 : decode b_MO_joins 0 = .ok (.aload_n 0, 1) := by decide +kernel
theorem d_MO_joins_1 : decode b_MO_joins 1 = .ok (.getfield 26, 3) := by decide +kernel
theorem d_MO_joins_4 : decode b_MO_joins 4 = .ok (.iload_n 1, 1) := by decide +kernel
theorem d_MO_joins_5 : decode b_MO_joins 5 = .ok (.iaload, 1) := by decide +kernel
theorem d_MO_joins_6 : decode b_MO_joins 6 = .ok (.iload_n 2, 1) := by decide +kernel
theorem d_MO_joins_7 : decode b_MO_joins 7 = .ok (.if_icmp .ne 13, 3) := by decide +kernel
theorem d_MO_joins_10 : decode b_MO_joins 10 = .ok (.aload_n 0, 1) := by decide +kernel
theorem d_MO_joins_11 : decode b_MO_joins 11 = .ok (.getfield 29, 3) := by decide +kernel
theorem d_MO_joins_14 : decode b_MO_joins 14 = .ok (.iload_n 1, 1) := by decide +kernel
theorem d_MO_joins_15 : decode b_MO_joins 15 = .ok (.iaload, 1) := by decide +kernel
theorem d_MO_joins_16 : decode b_MO_joins 16 = .ok (.iload_n 3, 1) := by decide +kernel
theorem d_MO_joins_17 : decode b_MO_joins 17 = .ok (.if_icmp .eq 23, 3) := by decide +kernel
theorem d_MO_joins_20 : decode b_MO_joins 20 = .ok (.aload_n 0, 1) := by decide +kernel
theorem d_MO_joins_21 : decode b_MO_joins 21 = .ok (.getfield 26, 3) := by decide +kernel
theorem d_MO_joins_24 : decode b_MO_joins 24 = .ok (.iload_n 1, 1) := by decide +kernel
theorem d_MO_joins_25 : decode b_MO_joins 25 = .ok (.iaload, 1) := by decide +kernel
theorem d_MO_joins_26 : decode b_MO_joins 26 = .ok (.iload_n 3, 1) := by decide +kernel
theorem d_MO_joins_27 : decode b_MO_joins 27 = .ok (.if_icmp .ne 17, 3) := by decide +kernel
theorem d_MO_joins_30 : decode b_MO_joins 30 = .ok (.aload_n 0, 1) := by decide +kernel
theorem d_MO_joins_31 : decode b_MO_joins 31 = .ok (.getfield 29, 3) := by decide +kernel
theorem d_MO_joins_34 : decode b_MO_joins 34 = .ok (.iload_n 1, 1) := by decide +kernel
theorem d_MO_joins_35 : decode b_MO_joins 35 = .ok (.iaload, 1) := by decide +kernel
theorem d_MO_joins_36 : decode b_MO_joins 36 = .ok (.iload_n 2, 1) := by decide +kernel
theorem d_MO_joins_37 : decode b_MO_joins 37 = .ok (.if_icmp .ne 7, 3) := by decide +kernel
theorem d_MO_joins_40 : decode b_MO_joins 40 = .ok (.iconst 1, 1) := by decide +kernel
theorem d_MO_joins_41 : decode b_MO_joins 41 = .ok (.goto 4, 3) := by decide +kernel
theorem d_MO_joins_44 : decode b_MO_joins 44 = .ok (.iconst 0, 1) := by decide +kernel
theorem d_MO_joins_45 : decode b_MO_joins 45 = .ok (.ireturn, 1) := by decide +kernel
theorem d_MO_way_0 : decode b_MO_way 0 = .ok (.aload_n 0, 1) := by decide +kernel
theorem d_MO_way_1 : decode b_MO_way 1 = .ok (.iload_n 1, 1) := by decide +kernel
theorem d_MO_way_2 : decode b_MO_way 2 = .ok (.iload_n 2, 1) := by decide +kernel
theorem d_MO_way_3 : decode b_MO_way 3 = .ok (.invokevirtual 109, 3) := by decide +kernel
theorem d_MO_way_6 : decode b_MO_way 6 = .ok (.istore_n 3, 1) := by decide +kernel
theorem d_MO_way_7 : decode b_MO_way 7 = .ok (.iload_n 3, 1) := by decide +kernel
theorem d_MO_way_8 : decode b_MO_way 8 = .ok (.ifCond .eq 5, 3) := by decide +kernel
theorem d_MO_way_11 : decode b_MO_way 11 = .ok (.iload_n 3, 1) := by decide +kernel
theorem d_MO_way_12 : decode b_MO_way 12 = .ok (.ireturn, 1) := by decide +kernel
theorem d_MO_way_13 : decode b_MO_way 13 = .ok (.aload_n 0, 1) := by decide +kernel
theorem d_MO_way_14 : decode b_MO_way 14 = .ok (.invokevirtual 113, 3) := by decide +kernel
theorem d_MO_way_17 : decode b_MO_way 17 = .ok (.aload_n 0, 1) := by decide +kernel
theorem d_MO_way_18 : decode b_MO_way 18 = .ok (.getfield 116, 3) := by decide +kernel
theorem d_MO_way_21 : decode b_MO_way 21 = .ok (.bipush 64, 2) := by decide +kernel
theorem d_MO_way_23 : decode b_MO_way 23 = .ok (.if_icmp .ne 19, 3) := by decide +kernel
theorem d_MO_way_26 : decode b_MO_way 26 = .ok (.aload_n 0, 1) := by decide +kernel
theorem d_MO_way_27 : decode b_MO_way 27 = .ok (.iload_n 1, 1) := by decide +kernel
theorem d_MO_way_28 : decode b_MO_way 28 = .ok (.iload_n 2, 1) := by decide +kernel
theorem d_MO_way_29 : decode b_MO_way 29 = .ok (.invokevirtual 119, 3) := by decide +kernel
theorem d_MO_way_32 : decode b_MO_way 32 = .ok (.ifCond .eq 8, 3) := by decide +kernel
theorem d_MO_way_35 : decode b_MO_way 35 = .ok (.bipush (-5), 2) := by decide +kernel
theorem d_MO_way_37 : decode b_MO_way 37 = .ok (.goto 4, 3) := by decide +kernel
theorem d_MO_way_40 : decode b_MO_way 40 = .ok (.iconst (-1), 1) := by decide +kernel
theorem d_MO_way_41 : decode b_MO_way 41 = .ok (.ireturn, 1) := by decide +kernel
theorem d_MO_way_42 : decode b_MO_way 42 = .ok (.aload_n 0, 1) := by decide +kernel
theorem d_MO_way_43 : decode b_MO_way 43 = .ok (.iload_n 1, 1) := by decide +kernel
theorem d_MO_way_44 : decode b_MO_way 44 = .ok (.iload_n 2, 1) := by decide +kernel
theorem d_MO_way_45 : decode b_MO_way 45 = .ok (.aload_n 0, 1) := by decide +kernel
theorem d_MO_way_46 : decode b_MO_way 46 = .ok (.getfield 116, 3) := by decide +kernel
theorem d_MO_way_49 : decode b_MO_way 49 = .ok (.invokevirtual 122, 3) := by decide +kernel
theorem d_MO_way_52 : decode b_MO_way 52 = .ok (.ifCond .ne 5, 3) := by decide +kernel
theorem d_MO_way_55 : decode b_MO_way 55 = .ok (.iconst (-1), 1) := by decide +kernel
theorem d_MO_way_56 : decode b_MO_way 56 = .ok (.ireturn, 1) := by decide +kernel
theorem d_MO_way_57 : decode b_MO_way 57 = .ok (.aload_n 0, 1) := by decide +kernel
theorem d_MO_way_58 : decode b_MO_way 58 = .ok (.dup, 1) := by decide +kernel
theorem d_MO_way_59 : decode b_MO_way 59 = .ok (.getfield 116, 3) := by decide +kernel
theorem d_MO_way_62 : decode b_MO_way 62 = .ok (.iconst 1, 1) := by decide +kernel
theorem d_MO_way_63 : decode b_MO_way 63 = .ok (.iadd, 1) := by decide +kernel
theorem d_MO_way_64 : decode b_MO_way 64 = .ok (.putfield 116, 3) := by decide +kernel
theorem d_MO_way_67 : decode b_MO_way 67 = .ok (.aload_n 0, 1) := by decide +kernel
theorem d_MO_way_68 : decode b_MO_way 68 = .ok (.getfield 116, 3) := by decide +kernel
theorem d_MO_way_71 : decode b_MO_way 71 = .ok (.iconst 1, 1) := by decide +kernel
theorem d_MO_way_72 : decode b_MO_way 72 = .ok (.isub, 1) := by decide +kernel
theorem d_MO_way_73 : decode b_MO_way 73 = .ok (.ireturn, 1) := by decide +kernel
theorem d_MO_wrong_0 : decode b_MO_wrong 0 = .ok (.aload_n 0, 1) := by decide +kernel
theorem d_MO_wrong_1 : decode b_MO_wrong 1 = .ok (.iload_n 1, 1) := by decide +kernel
theorem d_MO_wrong_2 : decode b_MO_wrong 2 = .ok (.invokevirtual 106, 3) := by decide +kernel
theorem d_MO_wrong_5 : decode b_MO_wrong 5 = .ok (.ifCond .eq 11, 3) := by decide +kernel
theorem d_MO_wrong_8 : decode b_MO_wrong 8 = .ok (.aload_n 0, 1) := by decide +kernel
theorem d_MO_wrong_9 : decode b_MO_wrong 9 = .ok (.iload_n 2, 1) := by decide +kernel
theorem d_MO_wrong_10 : decode b_MO_wrong 10 = .ok (.invokevirtual 106, 3) := by decide +kernel
theorem d_MO_wrong_13 : decode b_MO_wrong 13 = .ok (.ifCond .ne 8, 3) := by decide +kernel
theorem d_MO_wrong_16 : decode b_MO_wrong 16 = .ok (.bipush (-2), 2) := by decide +kernel
theorem d_MO_wrong_18 : decode b_MO_wrong 18 = .ok (.goto 28, 3) := by decide +kernel
theorem d_MO_wrong_21 : decode b_MO_wrong 21 = .ok (.iload_n 1, 1) := by decide +kernel
theorem d_MO_wrong_22 : decode b_MO_wrong 22 = .ok (.iload_n 2, 1) := by decide +kernel
theorem d_MO_wrong_23 : decode b_MO_wrong 23 = .ok (.if_icmp .ne 8, 3) := by decide +kernel
theorem d_MO_wrong_26 : decode b_MO_wrong 26 = .ok (.bipush (-3), 2) := by decide +kernel
theorem d_MO_wrong_28 : decode b_MO_wrong 28 = .ok (.goto 18, 3) := by decide +kernel
theorem d_MO_wrong_31 : decode b_MO_wrong 31 = .ok (.aload_n 0, 1) := by decide +kernel
theorem d_MO_wrong_32 : decode b_MO_wrong 32 = .ok (.getfield 13, 3) := by decide +kernel
theorem d_MO_wrong_35 : decode b_MO_wrong 35 = .ok (.iload_n 1, 1) := by decide +kernel
theorem d_MO_wrong_36 : decode b_MO_wrong 36 = .ok (.baload, 1) := by decide +kernel
theorem d_MO_wrong_37 : decode b_MO_wrong 37 = .ok (.ifCond .eq 8, 3) := by decide +kernel
theorem d_MO_wrong_40 : decode b_MO_wrong 40 = .ok (.bipush (-4), 2) := by decide +kernel
theorem d_MO_wrong_42 : decode b_MO_wrong 42 = .ok (.goto 4, 3) := by decide +kernel
theorem d_MO_wrong_45 : decode b_MO_wrong 45 = .ok (.iconst 0, 1) := by decide +kernel
theorem d_MO_wrong_46 : decode b_MO_wrong 46 = .ok (.ireturn, 1) := by decide +kernel
theorem d_MO_isTank_0 : decode b_MO_isTank 0 = .ok (.aload_n 0, 1) := by decide +kernel
theorem d_MO_isTank_1 : decode b_MO_isTank 1 = .ok (.iload_n 1, 1) := by decide +kernel
theorem d_MO_isTank_2 : decode b_MO_isTank 2 = .ok (.invokevirtual 74, 3) := by decide +kernel
theorem d_MO_isTank_5 : decode b_MO_isTank 5 = .ok (.ifCond .eq 16, 3) := by decide +kernel
theorem d_MO_isTank_8 : decode b_MO_isTank 8 = .ok (.aload_n 0, 1) := by decide +kernel
theorem d_MO_isTank_9 : decode b_MO_isTank 9 = .ok (.getfield 9, 3) := by decide +kernel
theorem d_MO_isTank_12 : decode b_MO_isTank 12 = .ok (.iload_n 1, 1) := by decide +kernel
theorem d_MO_isTank_13 : decode b_MO_isTank 13 = .ok (.iaload, 1) := by decide +kernel
theorem d_MO_isTank_14 : decode b_MO_isTank 14 = .ok (.ifCond .ne 7, 3) := by decide +kernel
theorem d_MO_isTank_17 : decode b_MO_isTank 17 = .ok (.iconst 1, 1) := by decide +kernel
theorem d_MO_isTank_18 : decode b_MO_isTank 18 = .ok (.goto 4, 3) := by decide +kernel
theorem d_MO_isTank_21 : decode b_MO_isTank 21 = .ok (.iconst 0, 1) := by decide +kernel
theorem d_MO_isTank_22 : decode b_MO_isTank 22 = .ok (.ireturn, 1) := by decide +kernel
theorem d_MO_shut_0 : decode b_MO_shut 0 = .ok (.iconst 0, 1) := by decide +kernel
theorem d_MO_shut_1 : decode b_MO_shut 1 = .ok (.istore_n 1, 1) := by decide +kernel
theorem d_MO_shut_2 : decode b_MO_shut 2 = .ok (.iload_n 1, 1) := by decide +kernel
theorem d_MO_shut_3 : decode b_MO_shut 3 = .ok (.aload_n 0, 1) := by decide +kernel
theorem d_MO_shut_4 : decode b_MO_shut 4 = .ok (.getfield 66, 3) := by decide +kernel
theorem d_MO_shut_7 : decode b_MO_shut 7 = .ok (.if_icmp .ge 21, 3) := by decide +kernel
theorem d_MO_shut_10 : decode b_MO_shut 10 = .ok (.aload_n 0, 1) := by decide +kernel
theorem d_MO_shut_11 : decode b_MO_shut 11 = .ok (.getfield 54, 3) := by decide +kernel
theorem d_MO_shut_14 : decode b_MO_shut 14 = .ok (.iload_n 1, 1) := by decide +kernel
theorem d_MO_shut_15 : decode b_MO_shut 15 = .ok (.aload_n 0, 1) := by decide +kernel
theorem d_MO_shut_16 : decode b_MO_shut 16 = .ok (.getfield 17, 3) := by decide +kernel
theorem d_MO_shut_19 : decode b_MO_shut 19 = .ok (.iload_n 1, 1) := by decide +kernel
theorem d_MO_shut_20 : decode b_MO_shut 20 = .ok (.baload, 1) := by decide +kernel
theorem d_MO_shut_21 : decode b_MO_shut 21 = .ok (.bastore, 1) := by decide +kernel
theorem d_MO_shut_22 : decode b_MO_shut 22 = .ok (.iinc 1 1, 3) := by decide +kernel
theorem d_MO_shut_25 : decode b_MO_shut 25 = .ok (.goto (-23), 3) := by decide +kernel
theorem d_MO_shut_28 : decode b_MO_shut 28 = .ok (.iconst 0, 1) := by decide +kernel
theorem d_MO_shut_29 : decode b_MO_shut 29 = .ok (.istore_n 1, 1) := by decide +kernel
theorem d_MO_shut_30 : decode b_MO_shut 30 = .ok (.iload_n 1, 1) := by decide +kernel
theorem d_MO_shut_31 : decode b_MO_shut 31 = .ok (.aload_n 0, 1) := by decide +kernel
theorem d_MO_shut_32 : decode b_MO_shut 32 = .ok (.getfield 80, 3) := by decide +kernel
theorem d_MO_shut_35 : decode b_MO_shut 35 = .ok (.if_icmp .ge 96, 3) := by decide +kernel
theorem d_MO_shut_38 : decode b_MO_shut 38 = .ok (.aload_n 0, 1) := by decide +kernel
theorem d_MO_shut_39 : decode b_MO_shut 39 = .ok (.getfield 57, 3) := by decide +kernel
theorem d_MO_shut_42 : decode b_MO_shut 42 = .ok (.iload_n 1, 1) := by decide +kernel
theorem d_MO_shut_43 : decode b_MO_shut 43 = .ok (.aload_n 0, 1) := by decide +kernel
theorem d_MO_shut_44 : decode b_MO_shut 44 = .ok (.getfield 36, 3) := by decide +kernel
theorem d_MO_shut_47 : decode b_MO_shut 47 = .ok (.iload_n 1, 1) := by decide +kernel
theorem d_MO_shut_48 : decode b_MO_shut 48 = .ok (.baload, 1) := by decide +kernel
theorem d_MO_shut_49 : decode b_MO_shut 49 = .ok (.bastore, 1) := by decide +kernel
theorem d_MO_shut_50 : decode b_MO_shut 50 = .ok (.aload_n 0, 1) := by decide +kernel
theorem d_MO_shut_51 : decode b_MO_shut 51 = .ok (.getfield 36, 3) := by decide +kernel
theorem d_MO_shut_54 : decode b_MO_shut 54 = .ok (.iload_n 1, 1) := by decide +kernel
theorem d_MO_shut_55 : decode b_MO_shut 55 = .ok (.baload, 1) := by decide +kernel
theorem d_MO_shut_56 : decode b_MO_shut 56 = .ok (.ifCond .eq 69, 3) := by decide +kernel
theorem d_MO_shut_59 : decode b_MO_shut 59 = .ok (.aload_n 0, 1) := by decide +kernel
theorem d_MO_shut_60 : decode b_MO_shut 60 = .ok (.getfield 54, 3) := by decide +kernel
theorem d_MO_shut_63 : decode b_MO_shut 63 = .ok (.aload_n 0, 1) := by decide +kernel
theorem d_MO_shut_64 : decode b_MO_shut 64 = .ok (.getfield 26, 3) := by decide +kernel
theorem d_MO_shut_67 : decode b_MO_shut 67 = .ok (.iload_n 1, 1) := by decide +kernel
theorem d_MO_shut_68 : decode b_MO_shut 68 = .ok (.iaload, 1) := by decide +kernel
theorem d_MO_shut_69 : decode b_MO_shut 69 = .ok (.dup2, 1) := by decide +kernel
theorem d_MO_shut_70 : decode b_MO_shut 70 = .ok (.baload, 1) := by decide +kernel
theorem d_MO_shut_71 : decode b_MO_shut 71 = .ok (.aload_n 0, 1) := by decide +kernel
theorem d_MO_shut_72 : decode b_MO_shut 72 = .ok (.getfield 9, 3) := by decide +kernel
theorem d_MO_shut_75 : decode b_MO_shut 75 = .ok (.aload_n 0, 1) := by decide +kernel
theorem d_MO_shut_76 : decode b_MO_shut 76 = .ok (.getfield 26, 3) := by decide +kernel
theorem d_MO_shut_79 : decode b_MO_shut 79 = .ok (.iload_n 1, 1) := by decide +kernel
theorem d_MO_shut_80 : decode b_MO_shut 80 = .ok (.iaload, 1) := by decide +kernel
theorem d_MO_shut_81 : decode b_MO_shut 81 = .ok (.iaload, 1) := by decide +kernel
theorem d_MO_shut_82 : decode b_MO_shut 82 = .ok (.ifCond .eq 7, 3) := by decide +kernel
theorem d_MO_shut_85 : decode b_MO_shut 85 = .ok (.iconst 1, 1) := by decide +kernel
theorem d_MO_shut_86 : decode b_MO_shut 86 = .ok (.goto 4, 3) := by decide +kernel
theorem d_MO_shut_89 : decode b_MO_shut 89 = .ok (.iconst 0, 1) := by decide +kernel
theorem d_MO_shut_90 : decode b_MO_shut 90 = .ok (.ior, 1) := by decide +kernel
theorem d_MO_shut_91 : decode b_MO_shut 91 = .ok (.bastore, 1) := by decide +kernel
theorem d_MO_shut_92 : decode b_MO_shut 92 = .ok (.aload_n 0, 1) := by decide +kernel
theorem d_MO_shut_93 : decode b_MO_shut 93 = .ok (.getfield 54, 3) := by decide +kernel
theorem d_MO_shut_96 : decode b_MO_shut 96 = .ok (.aload_n 0, 1) := by decide +kernel
theorem d_MO_shut_97 : decode b_MO_shut 97 = .ok (.getfield 29, 3) := by decide +kernel
theorem d_MO_shut_100 : decode b_MO_shut 100 = .ok (.iload_n 1, 1) := by decide +kernel
theorem d_MO_shut_101 : decode b_MO_shut 101 = .ok (.iaload, 1) := by decide +kernel
theorem d_MO_shut_102 : decode b_MO_shut 102 = .ok (.dup2, 1) := by decide +kernel
theorem d_MO_shut_103 : decode b_MO_shut 103 = .ok (.baload, 1) := by decide +kernel
theorem d_MO_shut_104 : decode b_MO_shut 104 = .ok (.aload_n 0, 1) := by decide +kernel
theorem d_MO_shut_105 : decode b_MO_shut 105 = .ok (.getfield 9, 3) := by decide +kernel
theorem d_MO_shut_108 : decode b_MO_shut 108 = .ok (.aload_n 0, 1) := by decide +kernel
theorem d_MO_shut_109 : decode b_MO_shut 109 = .ok (.getfield 29, 3) := by decide +kernel
theorem d_MO_shut_112 : decode b_MO_shut 112 = .ok (.iload_n 1, 1) := by decide +kernel
theorem d_MO_shut_113 : decode b_MO_shut 113 = .ok (.iaload, 1) := by decide +kernel
theorem d_MO_shut_114 : decode b_MO_shut 114 = .ok (.iaload, 1) := by decide +kernel
theorem d_MO_shut_115 : decode b_MO_shut 115 = .ok (.ifCond .eq 7, 3) := by decide +kernel
theorem d_MO_shut_118 : decode b_MO_shut 118 = .ok (.iconst 1, 1) := by decide +kernel
theorem d_MO_shut_119 : decode b_MO_shut 119 = .ok (.goto 4, 3) := by decide +kernel
theorem d_MO_shut_122 : decode b_MO_shut 122 = .ok (.iconst 0, 1) := by decide +kernel
theorem d_MO_shut_123 : decode b_MO_shut 123 = .ok (.ior, 1) := by decide +kernel
theorem d_MO_shut_124 : decode b_MO_shut 124 = .ok (.bastore, 1) := by decide +kernel
theorem d_MO_shut_125 : decode b_MO_shut 125 = .ok (.iinc 1 1, 3) := by decide +kernel
theorem d_MO_shut_128 : decode b_MO_shut 128 = .ok (.goto (-98), 3) := by decide +kernel
theorem d_MO_shut_131 : decode b_MO_shut 131 = .ok (.return_, 1) := by decide +kernel
theorem d_MO_exists_0 : decode b_MO_exists 0 = .ok (.aload_n 0, 1) := by decide +kernel
theorem d_MO_exists_1 : decode b_MO_exists 1 = .ok (.getfield 54, 3) := by decide +kernel
theorem d_MO_exists_4 : decode b_MO_exists 4 = .ok (.iload_n 1, 1) := by decide +kernel
theorem d_MO_exists_5 : decode b_MO_exists 5 = .ok (.baload, 1) := by decide +kernel
theorem d_MO_exists_6 : decode b_MO_exists 6 = .ok (.ifCond .ne 12, 3) := by decide +kernel
theorem d_MO_exists_9 : decode b_MO_exists 9 = .ok (.aload_n 0, 1) := by decide +kernel
theorem d_MO_exists_10 : decode b_MO_exists 10 = .ok (.getfield 54, 3) := by decide +kernel
theorem d_MO_exists_13 : decode b_MO_exists 13 = .ok (.iload_n 2, 1) := by decide +kernel
theorem d_MO_exists_14 : decode b_MO_exists 14 = .ok (.baload, 1) := by decide +kernel
theorem d_MO_exists_15 : decode b_MO_exists 15 = .ok (.ifCond .eq 5, 3) := by decide +kernel
theorem d_MO_exists_18 : decode b_MO_exists 18 = .ok (.iconst 0, 1) := by decide +kernel
theorem d_MO_exists_19 : decode b_MO_exists 19 = .ok (.ireturn, 1) := by decide +kernel
theorem d_MO_exists_20 : decode b_MO_exists 20 = .ok (.aload_n 0, 1) := by decide +kernel
theorem d_MO_exists_21 : decode b_MO_exists 21 = .ok (.iload_n 1, 1) := by decide +kernel
theorem d_MO_exists_22 : decode b_MO_exists 22 = .ok (.iload_n 2, 1) := by decide +kernel
theorem d_MO_exists_23 : decode b_MO_exists 23 = .ok (.invokevirtual 102, 3) := by decide +kernel
theorem d_MO_exists_26 : decode b_MO_exists 26 = .ok (.aload_n 0, 1) := by decide +kernel
theorem d_MO_exists_27 : decode b_MO_exists 27 = .ok (.getfield 51, 3) := by decide +kernel
theorem d_MO_exists_30 : decode b_MO_exists 30 = .ok (.iload_n 1, 1) := by decide +kernel
theorem d_MO_exists_31 : decode b_MO_exists 31 = .ok (.laload, 1) := by decide +kernel
theorem d_MO_exists_32 : decode b_MO_exists 32 = .ok (.ldc2_w 91, 3) := by decide +kernel
theorem d_MO_exists_35 : decode b_MO_exists 35 = .ok (.lcmp, 1) := by decide +kernel
theorem d_MO_exists_36 : decode b_MO_exists 36 = .ok (.ifCond .eq 7, 3) := by decide +kernel
theorem d_MO_exists_39 : decode b_MO_exists 39 = .ok (.iconst 1, 1) := by decide +kernel
theorem d_MO_exists_40 : decode b_MO_exists 40 = .ok (.goto 4, 3) := by decide +kernel
theorem d_MO_exists_43 : decode b_MO_exists 43 = .ok (.iconst 0, 1) := by decide +kernel
theorem d_MO_exists_44 : decode b_MO_exists 44 = .ok (.ireturn, 1) := by decide +kernel
theorem d_MO_reckon_0 : decode b_MO_reckon 0 = .ok (.iconst 0, 1) := by decide +kernel
theorem d_MO_reckon_1 : decode b_MO_reckon 1 = .ok (.istore_n 3, 1) := by decide +kernel
theorem d_MO_reckon_2 : decode b_MO_reckon 2 = .ok (.iload_n 3, 1) := by decide +kernel
theorem d_MO_reckon_3 : decode b_MO_reckon 3 = .ok (.aload_n 0, 1) := by decide +kernel
theorem d_MO_reckon_4 : decode b_MO_reckon 4 = .ok (.getfield 66, 3) := by decide +kernel
theorem d_MO_reckon_7 : decode b_MO_reckon 7 = .ok (.if_icmp .ge 18, 3) := by decide +kernel
theorem d_MO_reckon_10 : decode b_MO_reckon 10 = .ok (.aload_n 0, 1) := by decide +kernel
theorem d_MO_reckon_11 : decode b_MO_reckon 11 = .ok (.getfield 51, 3) := by decide +kernel
theorem d_MO_reckon_14 : decode b_MO_reckon 14 = .ok (.iload_n 3, 1) := by decide +kernel
theorem d_MO_reckon_15 : decode b_MO_reckon 15 = .ok (.ldc2_w 91, 3) := by decide +kernel
theorem d_MO_reckon_18 : decode b_MO_reckon 18 = .ok (.lastore, 1) := by decide +kernel
theorem d_MO_reckon_19 : decode b_MO_reckon 19 = .ok (.iinc 3 1, 3) := by decide +kernel
theorem d_MO_reckon_22 : decode b_MO_reckon 22 = .ok (.goto (-20), 3) := by decide +kernel
theorem d_MO_reckon_25 : decode b_MO_reckon 25 = .ok (.aload_n 0, 1) := by decide +kernel
theorem d_MO_reckon_26 : decode b_MO_reckon 26 = .ok (.getfield 51, 3) := by decide +kernel
theorem d_MO_reckon_29 : decode b_MO_reckon 29 = .ok (.iload_n 2, 1) := by decide +kernel
theorem d_MO_reckon_30 : decode b_MO_reckon 30 = .ok (.lconst 0, 1) := by decide +kernel
theorem d_MO_reckon_31 : decode b_MO_reckon 31 = .ok (.lastore, 1) := by decide +kernel
theorem d_MO_reckon_32 : decode b_MO_reckon 32 = .ok (.iconst 1, 1) := by decide +kernel
theorem d_MO_reckon_33 : decode b_MO_reckon 33 = .ok (.istore_n 3, 1) := by decide +kernel
theorem d_MO_reckon_34 : decode b_MO_reckon 34 = .ok (.iload_n 3, 1) := by decide +kernel
theorem d_MO_reckon_35 : decode b_MO_reckon 35 = .ok (.ifCond .eq 76, 3) := by decide +kernel
theorem d_MO_reckon_38 : decode b_MO_reckon 38 = .ok (.iconst 0, 1) := by decide +kernel
theorem d_MO_reckon_39 : decode b_MO_reckon 39 = .ok (.istore_n 3, 1) := by decide +kernel
theorem d_MO_reckon_40 : decode b_MO_reckon 40 = .ok (.iconst 0, 1) := by decide +kernel
theorem d_MO_reckon_41 : decode b_MO_reckon 41 = .ok (.istore 4, 2) := by decide +kernel
theorem d_MO_reckon_43 : decode b_MO_reckon 43 = .ok (.iload 4, 2) := by decide +kernel
theorem d_MO_reckon_45 : decode b_MO_reckon 45 = .ok (.aload_n 0, 1) := by decide +kernel
theorem d_MO_reckon_46 : decode b_MO_reckon 46 = .ok (.getfield 80, 3) := by decide +kernel
theorem d_MO_reckon_49 : decode b_MO_reckon 49 = .ok (.if_icmp .ge 59, 3) := by decide +kernel
theorem d_MO_reckon_52 : decode b_MO_reckon 52 = .ok (.iload_n 3, 1) := by decide +kernel
theorem d_MO_reckon_53 : decode b_MO_reckon 53 = .ok (.aload_n 0, 1) := by decide +kernel
theorem d_MO_reckon_54 : decode b_MO_reckon 54 = .ok (.iload 4, 2) := by decide +kernel
theorem d_MO_reckon_56 : decode b_MO_reckon 56 = .ok (.aload_n 0, 1) := by decide +kernel
theorem d_MO_reckon_57 : decode b_MO_reckon 57 = .ok (.getfield 26, 3) := by decide +kernel
theorem d_MO_reckon_60 : decode b_MO_reckon 60 = .ok (.iload 4, 2) := by decide +kernel
theorem d_MO_reckon_62 : decode b_MO_reckon 62 = .ok (.iaload, 1) := by decide +kernel
theorem d_MO_reckon_63 : decode b_MO_reckon 63 = .ok (.aload_n 0, 1) := by decide +kernel
theorem d_MO_reckon_64 : decode b_MO_reckon 64 = .ok (.getfield 29, 3) := by decide +kernel
theorem d_MO_reckon_67 : decode b_MO_reckon 67 = .ok (.iload 4, 2) := by decide +kernel
theorem d_MO_reckon_69 : decode b_MO_reckon 69 = .ok (.iaload, 1) := by decide +kernel
theorem d_MO_reckon_70 : decode b_MO_reckon 70 = .ok (.iload_n 1, 1) := by decide +kernel
theorem d_MO_reckon_71 : decode b_MO_reckon 71 = .ok (.iload_n 2, 1) := by decide +kernel
theorem d_MO_reckon_72 : decode b_MO_reckon 72 = .ok (.invokevirtual 93, 3) := by decide +kernel
theorem d_MO_reckon_75 : decode b_MO_reckon 75 = .ok (.ior, 1) := by decide +kernel
theorem d_MO_reckon_76 : decode b_MO_reckon 76 = .ok (.istore_n 3, 1) := by decide +kernel
theorem d_MO_reckon_77 : decode b_MO_reckon 77 = .ok (.iload_n 3, 1) := by decide +kernel
theorem d_MO_reckon_78 : decode b_MO_reckon 78 = .ok (.aload_n 0, 1) := by decide +kernel
theorem d_MO_reckon_79 : decode b_MO_reckon 79 = .ok (.iload 4, 2) := by decide +kernel
theorem d_MO_reckon_81 : decode b_MO_reckon 81 = .ok (.aload_n 0, 1) := by decide +kernel
theorem d_MO_reckon_82 : decode b_MO_reckon 82 = .ok (.getfield 29, 3) := by decide +kernel
theorem d_MO_reckon_85 : decode b_MO_reckon 85 = .ok (.iload 4, 2) := by decide +kernel
theorem d_MO_reckon_87 : decode b_MO_reckon 87 = .ok (.iaload, 1) := by decide +kernel
theorem d_MO_reckon_88 : decode b_MO_reckon 88 = .ok (.aload_n 0, 1) := by decide +kernel
theorem d_MO_reckon_89 : decode b_MO_reckon 89 = .ok (.getfield 26, 3) := by decide +kernel
theorem d_MO_reckon_92 : decode b_MO_reckon 92 = .ok (.iload 4, 2) := by decide +kernel
theorem d_MO_reckon_94 : decode b_MO_reckon 94 = .ok (.iaload, 1) := by decide +kernel
theorem d_MO_reckon_95 : decode b_MO_reckon 95 = .ok (.iload_n 1, 1) := by decide +kernel
theorem d_MO_reckon_96 : decode b_MO_reckon 96 = .ok (.iload_n 2, 1) := by decide +kernel
theorem d_MO_reckon_97 : decode b_MO_reckon 97 = .ok (.invokevirtual 93, 3) := by decide +kernel
theorem d_MO_reckon_100 : decode b_MO_reckon 100 = .ok (.ior, 1) := by decide +kernel
theorem d_MO_reckon_101 : decode b_MO_reckon 101 = .ok (.istore_n 3, 1) := by decide +kernel
theorem d_MO_reckon_102 : decode b_MO_reckon 102 = .ok (.iinc 4 1, 3) := by decide +kernel
theorem d_MO_reckon_105 : decode b_MO_reckon 105 = .ok (.goto (-62), 3) := by decide +kernel
theorem d_MO_reckon_108 : decode b_MO_reckon 108 = .ok (.goto (-74), 3) := by decide +kernel
theorem d_MO_reckon_111 : decode b_MO_reckon 111 = .ok (.return_, 1) := by decide +kernel
theorem d_MO_improve_0 : decode b_MO_improve 0 = .ok (.aload_n 0, 1) := by decide +kernel
theorem d_MO_improve_1 : decode b_MO_improve 1 = .ok (.getfield 9, 3) := by decide +kernel
theorem d_MO_improve_4 : decode b_MO_improve 4 = .ok (.iload_n 2, 1) := by decide +kernel
theorem d_MO_improve_5 : decode b_MO_improve 5 = .ok (.iaload, 1) := by decide +kernel
theorem d_MO_improve_6 : decode b_MO_improve 6 = .ok (.ifCond .ne 9, 3) := by decide +kernel
theorem d_MO_improve_9 : decode b_MO_improve 9 = .ok (.iload_n 2, 1) := by decide +kernel
theorem d_MO_improve_10 : decode b_MO_improve 10 = .ok (.iload 4, 2) := by decide +kernel
theorem d_MO_improve_12 : decode b_MO_improve 12 = .ok (.if_icmp .ne 28, 3) := by decide +kernel
theorem d_MO_improve_15 : decode b_MO_improve 15 = .ok (.aload_n 0, 1) := by decide +kernel
theorem d_MO_improve_16 : decode b_MO_improve 16 = .ok (.getfield 9, 3) := by decide +kernel
theorem d_MO_improve_19 : decode b_MO_improve 19 = .ok (.iload_n 3, 1) := by decide +kernel
theorem d_MO_improve_20 : decode b_MO_improve 20 = .ok (.iaload, 1) := by decide +kernel
theorem d_MO_improve_21 : decode b_MO_improve 21 = .ok (.ifCond .ne 9, 3) := by decide +kernel
theorem d_MO_improve_24 : decode b_MO_improve 24 = .ok (.iload_n 3, 1) := by decide +kernel
theorem d_MO_improve_25 : decode b_MO_improve 25 = .ok (.iload 5, 2) := by decide +kernel
theorem d_MO_improve_27 : decode b_MO_improve 27 = .ok (.if_icmp .ne 13, 3) := by decide +kernel
theorem d_MO_improve_30 : decode b_MO_improve 30 = .ok (.iload_n 2, 1) := by decide +kernel
theorem d_MO_improve_31 : decode b_MO_improve 31 = .ok (.iload 5, 2) := by decide +kernel
theorem d_MO_improve_33 : decode b_MO_improve 33 = .ok (.if_icmp .eq 7, 3) := by decide +kernel
theorem d_MO_improve_36 : decode b_MO_improve 36 = .ok (.iconst 1, 1) := by decide +kernel
theorem d_MO_improve_37 : decode b_MO_improve 37 = .ok (.goto 4, 3) := by decide +kernel
theorem d_MO_improve_40 : decode b_MO_improve 40 = .ok (.iconst 0, 1) := by decide +kernel
theorem d_MO_improve_41 : decode b_MO_improve 41 = .ok (.istore 6, 2) := by decide +kernel
theorem d_MO_improve_43 : decode b_MO_improve 43 = .ok (.iload 6, 2) := by decide +kernel
theorem d_MO_improve_45 : decode b_MO_improve 45 = .ok (.ifCond .eq 26, 3) := by decide +kernel
theorem d_MO_improve_48 : decode b_MO_improve 48 = .ok (.aload_n 0, 1) := by decide +kernel
theorem d_MO_improve_49 : decode b_MO_improve 49 = .ok (.iload_n 1, 1) := by decide +kernel
theorem d_MO_improve_50 : decode b_MO_improve 50 = .ok (.iload_n 2, 1) := by decide +kernel
theorem d_MO_improve_51 : decode b_MO_improve 51 = .ok (.iload_n 3, 1) := by decide +kernel
theorem d_MO_improve_52 : decode b_MO_improve 52 = .ok (.invokevirtual 97, 3) := by decide +kernel
theorem d_MO_improve_55 : decode b_MO_improve 55 = .ok (.ifCond .eq 16, 3) := by decide +kernel
theorem d_MO_improve_58 : decode b_MO_improve 58 = .ok (.aload_n 0, 1) := by decide +kernel
theorem d_MO_improve_59 : decode b_MO_improve 59 = .ok (.getfield 51, 3) := by decide +kernel
theorem d_MO_improve_62 : decode b_MO_improve 62 = .ok (.iload_n 3, 1) := by decide +kernel
theorem d_MO_improve_63 : decode b_MO_improve 63 = .ok (.laload, 1) := by decide +kernel
theorem d_MO_improve_64 : decode b_MO_improve 64 = .ok (.ldc2_w 91, 3) := by decide +kernel
theorem d_MO_improve_67 : decode b_MO_improve 67 = .ok (.lcmp, 1) := by decide +kernel
theorem d_MO_improve_68 : decode b_MO_improve 68 = .ok (.ifCond .ne 5, 3) := by decide +kernel
theorem d_MO_improve_71 : decode b_MO_improve 71 = .ok (.iconst 0, 1) := by decide +kernel
theorem d_MO_improve_72 : decode b_MO_improve 72 = .ok (.ireturn, 1) := by decide +kernel
theorem d_MO_improve_73 : decode b_MO_improve 73 = .ok (.aload_n 0, 1) := by decide +kernel
theorem d_MO_improve_74 : decode b_MO_improve 74 = .ok (.getfield 51, 3) := by decide +kernel
theorem d_MO_improve_77 : decode b_MO_improve 77 = .ok (.iload_n 3, 1) := by decide +kernel
theorem d_MO_improve_78 : decode b_MO_improve 78 = .ok (.laload, 1) := by decide +kernel
theorem d_MO_improve_79 : decode b_MO_improve 79 = .ok (.ldc2_w 100, 3) := by decide +kernel
theorem d_MO_improve_82 : decode b_MO_improve 82 = .ok (.aload_n 0, 1) := by decide +kernel
theorem d_MO_improve_83 : decode b_MO_improve 83 = .ok (.getfield 32, 3) := by decide +kernel
theorem d_MO_improve_86 : decode b_MO_improve 86 = .ok (.iload_n 1, 1) := by decide +kernel
theorem d_MO_improve_87 : decode b_MO_improve 87 = .ok (.laload, 1) := by decide +kernel
theorem d_MO_improve_88 : decode b_MO_improve 88 = .ok (.lmul, 1) := by decide +kernel
theorem d_MO_improve_89 : decode b_MO_improve 89 = .ok (.ladd, 1) := by decide +kernel
theorem d_MO_improve_90 : decode b_MO_improve 90 = .ok (.aload_n 0, 1) := by decide +kernel
theorem d_MO_improve_91 : decode b_MO_improve 91 = .ok (.getfield 9, 3) := by decide +kernel
theorem d_MO_improve_94 : decode b_MO_improve 94 = .ok (.iload_n 2, 1) := by decide +kernel
theorem d_MO_improve_95 : decode b_MO_improve 95 = .ok (.iaload, 1) := by decide +kernel
theorem d_MO_improve_96 : decode b_MO_improve 96 = .ok (.iconst 2, 1) := by decide +kernel
theorem d_MO_improve_97 : decode b_MO_improve 97 = .ok (.if_icmp .ne 7, 3) := by decide +kernel
theorem d_MO_improve_100 : decode b_MO_improve 100 = .ok (.lconst 1, 1) := by decide +kernel
theorem d_MO_improve_101 : decode b_MO_improve 101 = .ok (.goto 4, 3) := by decide +kernel
theorem d_MO_improve_104 : decode b_MO_improve 104 = .ok (.lconst 0, 1) := by decide +kernel
theorem d_MO_improve_105 : decode b_MO_improve 105 = .ok (.ladd, 1) := by decide +kernel
theorem d_MO_improve_106 : decode b_MO_improve 106 = .ok (.lstore 7, 2) := by decide +kernel
theorem d_MO_improve_108 : decode b_MO_improve 108 = .ok (.lload 7, 2) := by decide +kernel
theorem d_MO_improve_110 : decode b_MO_improve 110 = .ok (.aload_n 0, 1) := by decide +kernel
theorem d_MO_improve_111 : decode b_MO_improve 111 = .ok (.getfield 51, 3) := by decide +kernel
theorem d_MO_improve_114 : decode b_MO_improve 114 = .ok (.iload_n 2, 1) := by decide +kernel
theorem d_MO_improve_115 : decode b_MO_improve 115 = .ok (.laload, 1) := by decide +kernel
theorem d_MO_improve_116 : decode b_MO_improve 116 = .ok (.lcmp, 1) := by decide +kernel
theorem d_MO_improve_117 : decode b_MO_improve 117 = .ok (.ifCond .lt 5, 3) := by decide +kernel
theorem d_MO_improve_120 : decode b_MO_improve 120 = .ok (.iconst 0, 1) := by decide +kernel
theorem d_MO_improve_121 : decode b_MO_improve 121 = .ok (.ireturn, 1) := by decide +kernel
theorem d_MO_improve_122 : decode b_MO_improve 122 = .ok (.aload_n 0, 1) := by decide +kernel
theorem d_MO_improve_123 : decode b_MO_improve 123 = .ok (.getfield 51, 3) := by decide +kernel
theorem d_MO_improve_126 : decode b_MO_improve 126 = .ok (.iload_n 2, 1) := by decide +kernel
theorem d_MO_improve_127 : decode b_MO_improve 127 = .ok (.lload 7, 2) := by decide +kernel
theorem d_MO_improve_129 : decode b_MO_improve 129 = .ok (.lastore, 1) := by decide +kernel
theorem d_MO_improve_130 : decode b_MO_improve 130 = .ok (.iconst 1, 1) := by decide +kernel
theorem d_MO_improve_131 : decode b_MO_improve 131 = .ok (.ireturn, 1) := by decide +kernel
theorem d_MO_goes_0 : decode b_MO_goes 0 = .ok (.aload_n 0, 1) := by decide +kernel
theorem d_MO_goes_1 : decode b_MO_goes 1 = .ok (.getfield 57, 3) := by decide +kernel
theorem d_MO_goes_4 : decode b_MO_goes 4 = .ok (.iload_n 1, 1) := by decide +kernel
theorem d_MO_goes_5 : decode b_MO_goes 5 = .ok (.baload, 1) := by decide +kernel
theorem d_MO_goes_6 : decode b_MO_goes 6 = .ok (.ifCond .ne 65, 3) := by decide +kernel
theorem d_MO_goes_9 : decode b_MO_goes 9 = .ok (.aload_n 0, 1) := by decide +kernel
theorem d_MO_goes_10 : decode b_MO_goes 10 = .ok (.getfield 54, 3) := by decide +kernel
theorem d_MO_goes_13 : decode b_MO_goes 13 = .ok (.iload_n 2, 1) := by decide +kernel
theorem d_MO_goes_14 : decode b_MO_goes 14 = .ok (.baload, 1) := by decide +kernel
theorem d_MO_goes_15 : decode b_MO_goes 15 = .ok (.ifCond .ne 56, 3) := by decide +kernel
theorem d_MO_goes_18 : decode b_MO_goes 18 = .ok (.aload_n 0, 1) := by decide +kernel
theorem d_MO_goes_19 : decode b_MO_goes 19 = .ok (.getfield 54, 3) := by decide +kernel
theorem d_MO_goes_22 : decode b_MO_goes 22 = .ok (.iload_n 3, 1) := by decide +kernel
theorem d_MO_goes_23 : decode b_MO_goes 23 = .ok (.baload, 1) := by decide +kernel
theorem d_MO_goes_24 : decode b_MO_goes 24 = .ok (.ifCond .ne 47, 3) := by decide +kernel
theorem d_MO_goes_27 : decode b_MO_goes 27 = .ok (.aload_n 0, 1) := by decide +kernel
theorem d_MO_goes_28 : decode b_MO_goes 28 = .ok (.getfield 9, 3) := by decide +kernel
theorem d_MO_goes_31 : decode b_MO_goes 31 = .ok (.iload_n 2, 1) := by decide +kernel
theorem d_MO_goes_32 : decode b_MO_goes 32 = .ok (.iaload, 1) := by decide +kernel
theorem d_MO_goes_33 : decode b_MO_goes 33 = .ok (.iconst 1, 1) := by decide +kernel
theorem d_MO_goes_34 : decode b_MO_goes 34 = .ok (.if_icmp .ne 13, 3) := by decide +kernel
theorem d_MO_goes_37 : decode b_MO_goes 37 = .ok (.aload_n 0, 1) := by decide +kernel
theorem d_MO_goes_38 : decode b_MO_goes 38 = .ok (.getfield 23, 3) := by decide +kernel
theorem d_MO_goes_41 : decode b_MO_goes 41 = .ok (.iload_n 2, 1) := by decide +kernel
theorem d_MO_goes_42 : decode b_MO_goes 42 = .ok (.iaload, 1) := by decide +kernel
theorem d_MO_goes_43 : decode b_MO_goes 43 = .ok (.iload_n 3, 1) := by decide +kernel
theorem d_MO_goes_44 : decode b_MO_goes 44 = .ok (.if_icmp .ne 27, 3) := by decide +kernel
theorem d_MO_goes_47 : decode b_MO_goes 47 = .ok (.aload_n 0, 1) := by decide +kernel
theorem d_MO_goes_48 : decode b_MO_goes 48 = .ok (.getfield 9, 3) := by decide +kernel
theorem d_MO_goes_51 : decode b_MO_goes 51 = .ok (.iload_n 3, 1) := by decide +kernel
theorem d_MO_goes_52 : decode b_MO_goes 52 = .ok (.iaload, 1) := by decide +kernel
theorem d_MO_goes_53 : decode b_MO_goes 53 = .ok (.iconst 1, 1) := by decide +kernel
theorem d_MO_goes_54 : decode b_MO_goes 54 = .ok (.if_icmp .ne 13, 3) := by decide +kernel
theorem d_MO_goes_57 : decode b_MO_goes 57 = .ok (.aload_n 0, 1) := by decide +kernel
theorem d_MO_goes_58 : decode b_MO_goes 58 = .ok (.getfield 20, 3) := by decide +kernel
theorem d_MO_goes_61 : decode b_MO_goes 61 = .ok (.iload_n 3, 1) := by decide +kernel
theorem d_MO_goes_62 : decode b_MO_goes 62 = .ok (.iaload, 1) := by decide +kernel
theorem d_MO_goes_63 : decode b_MO_goes 63 = .ok (.iload_n 2, 1) := by decide +kernel
theorem d_MO_goes_64 : decode b_MO_goes 64 = .ok (.if_icmp .ne 7, 3) := by decide +kernel
theorem d_MO_goes_67 : decode b_MO_goes 67 = .ok (.iconst 1, 1) := by decide +kernel
theorem d_MO_goes_68 : decode b_MO_goes 68 = .ok (.goto 4, 3) := by decide +kernel
theorem d_MO_goes_71 : decode b_MO_goes 71 = .ok (.iconst 0, 1) := by decide +kernel
theorem d_MO_goes_72 : decode b_MO_goes 72 = .ok (.ireturn, 1) := by decide +kernel
theorem d_MO_walk_0 : decode b_MO_walk 0 = .ok (.aload_n 0, 1) := by decide +kernel
theorem d_MO_walk_1 : decode b_MO_walk 1 = .ok (.getfield 54, 3) := by decide +kernel
theorem d_MO_walk_4 : decode b_MO_walk 4 = .ok (.iload_n 1, 1) := by decide +kernel
theorem d_MO_walk_5 : decode b_MO_walk 5 = .ok (.baload, 1) := by decide +kernel
theorem d_MO_walk_6 : decode b_MO_walk 6 = .ok (.ifCond .ne 12, 3) := by decide +kernel
theorem d_MO_walk_9 : decode b_MO_walk 9 = .ok (.aload_n 0, 1) := by decide +kernel
theorem d_MO_walk_10 : decode b_MO_walk 10 = .ok (.getfield 54, 3) := by decide +kernel
theorem d_MO_walk_13 : decode b_MO_walk 13 = .ok (.iload_n 2, 1) := by decide +kernel
theorem d_MO_walk_14 : decode b_MO_walk 14 = .ok (.baload, 1) := by decide +kernel
theorem d_MO_walk_15 : decode b_MO_walk 15 = .ok (.ifCond .eq 5, 3) := by decide +kernel
theorem d_MO_walk_18 : decode b_MO_walk 18 = .ok (.iconst 0, 1) := by decide +kernel
theorem d_MO_walk_19 : decode b_MO_walk 19 = .ok (.ireturn, 1) := by decide +kernel
theorem d_MO_walk_20 : decode b_MO_walk 20 = .ok (.aload_n 0, 1) := by decide +kernel
theorem d_MO_walk_21 : decode b_MO_walk 21 = .ok (.iload_n 1, 1) := by decide +kernel
theorem d_MO_walk_22 : decode b_MO_walk 22 = .ok (.iload_n 2, 1) := by decide +kernel
theorem d_MO_walk_23 : decode b_MO_walk 23 = .ok (.invokevirtual 102, 3) := by decide +kernel
theorem d_MO_walk_26 : decode b_MO_walk 26 = .ok (.aload_n 0, 1) := by decide +kernel
theorem d_MO_walk_27 : decode b_MO_walk 27 = .ok (.getfield 51, 3) := by decide +kernel
theorem d_MO_walk_30 : decode b_MO_walk 30 = .ok (.iload_n 1, 1) := by decide +kernel
theorem d_MO_walk_31 : decode b_MO_walk 31 = .ok (.laload, 1) := by decide +kernel
theorem d_MO_walk_32 : decode b_MO_walk 32 = .ok (.ldc2_w 91, 3) := by decide +kernel
theorem d_MO_walk_35 : decode b_MO_walk 35 = .ok (.lcmp, 1) := by decide +kernel
theorem d_MO_walk_36 : decode b_MO_walk 36 = .ok (.ifCond .ne 5, 3) := by decide +kernel
theorem d_MO_walk_39 : decode b_MO_walk 39 = .ok (.iconst 0, 1) := by decide +kernel
theorem d_MO_walk_40 : decode b_MO_walk 40 = .ok (.ireturn, 1) := by decide +kernel
theorem d_MO_walk_41 : decode b_MO_walk 41 = .ok (.iload_n 1, 1) := by decide +kernel
theorem d_MO_walk_42 : decode b_MO_walk 42 = .ok (.istore 4, 2) := by decide +kernel
theorem d_MO_walk_44 : decode b_MO_walk 44 = .ok (.iconst 0, 1) := by decide +kernel
theorem d_MO_walk_45 : decode b_MO_walk 45 = .ok (.istore 5, 2) := by decide +kernel
theorem d_MO_walk_47 : decode b_MO_walk 47 = .ok (.iload 4, 2) := by decide +kernel
theorem d_MO_walk_49 : decode b_MO_walk 49 = .ok (.iload_n 2, 1) := by decide +kernel
theorem d_MO_walk_50 : decode b_MO_walk 50 = .ok (.if_icmp .eq 207, 3) := by decide +kernel
theorem d_MO_walk_53 : decode b_MO_walk 53 = .ok (.iconst (-1), 1) := by decide +kernel
theorem d_MO_walk_54 : decode b_MO_walk 54 = .ok (.istore 6, 2) := by decide +kernel
theorem d_MO_walk_56 : decode b_MO_walk 56 = .ok (.iconst 0, 1) := by decide +kernel
theorem d_MO_walk_57 : decode b_MO_walk 57 = .ok (.istore 7, 2) := by decide +kernel
theorem d_MO_walk_59 : decode b_MO_walk 59 = .ok (.iload 6, 2) := by decide +kernel
theorem d_MO_walk_61 : decode b_MO_walk 61 = .ok (.iconst (-1), 1) := by decide +kernel
theorem d_MO_walk_62 : decode b_MO_walk 62 = .ok (.if_icmp .ne 171, 3) := by decide +kernel
theorem d_MO_walk_65 : decode b_MO_walk 65 = .ok (.aload_n 0, 1) := by decide +kernel
theorem d_MO_walk_66 : decode b_MO_walk 66 = .ok (.getfield 26, 3) := by decide +kernel
theorem d_MO_walk_69 : decode b_MO_walk 69 = .ok (.iload 7, 2) := by decide +kernel
theorem d_MO_walk_71 : decode b_MO_walk 71 = .ok (.iaload, 1) := by decide +kernel
theorem d_MO_walk_72 : decode b_MO_walk 72 = .ok (.iload 4, 2) := by decide +kernel
theorem d_MO_walk_74 : decode b_MO_walk 74 = .ok (.if_icmp .ne 13, 3) := by decide +kernel
theorem d_MO_walk_77 : decode b_MO_walk 77 = .ok (.aload_n 0, 1) := by decide +kernel
theorem d_MO_walk_78 : decode b_MO_walk 78 = .ok (.getfield 29, 3) := by decide +kernel
theorem d_MO_walk_81 : decode b_MO_walk 81 = .ok (.iload 7, 2) := by decide +kernel
theorem d_MO_walk_83 : decode b_MO_walk 83 = .ok (.iaload, 1) := by decide +kernel
theorem d_MO_walk_84 : decode b_MO_walk 84 = .ok (.goto 26, 3) := by decide +kernel
theorem d_MO_walk_87 : decode b_MO_walk 87 = .ok (.aload_n 0, 1) := by decide +kernel
theorem d_MO_walk_88 : decode b_MO_walk 88 = .ok (.getfield 29, 3) := by decide +kernel
theorem d_MO_walk_91 : decode b_MO_walk 91 = .ok (.iload 7, 2) := by decide +kernel
theorem d_MO_walk_93 : decode b_MO_walk 93 = .ok (.iaload, 1) := by decide +kernel
theorem d_MO_walk_94 : decode b_MO_walk 94 = .ok (.iload 4, 2) := by decide +kernel
theorem d_MO_walk_96 : decode b_MO_walk 96 = .ok (.if_icmp .ne 13, 3) := by decide +kernel
theorem d_MO_walk_99 : decode b_MO_walk 99 = .ok (.aload_n 0, 1) := by decide +kernel
theorem d_MO_walk_100 : decode b_MO_walk 100 = .ok (.getfield 26, 3) := by decide +kernel
theorem d_MO_walk_103 : decode b_MO_walk 103 = .ok (.iload 7, 2) := by decide +kernel
theorem d_MO_walk_105 : decode b_MO_walk 105 = .ok (.iaload, 1) := by decide +kernel
theorem d_MO_walk_106 : decode b_MO_walk 106 = .ok (.goto 4, 3) := by decide +kernel
theorem d_MO_walk_109 : decode b_MO_walk 109 = .ok (.iconst (-1), 1) := by decide +kernel
theorem d_MO_walk_110 : decode b_MO_walk 110 = .ok (.istore 8, 2) := by decide +kernel
theorem d_MO_walk_112 : decode b_MO_walk 112 = .ok (.iload 8, 2) := by decide +kernel
theorem d_MO_walk_114 : decode b_MO_walk 114 = .ok (.iconst (-1), 1) := by decide +kernel
theorem d_MO_walk_115 : decode b_MO_walk 115 = .ok (.if_icmp .eq 50, 3) := by decide +kernel
theorem d_MO_walk_118 : decode b_MO_walk 118 = .ok (.aload_n 0, 1) := by decide +kernel
theorem d_MO_walk_119 : decode b_MO_walk 119 = .ok (.getfield 9, 3) := by decide +kernel
theorem d_MO_walk_122 : decode b_MO_walk 122 = .ok (.iload 8, 2) := by decide +kernel
theorem d_MO_walk_124 : decode b_MO_walk 124 = .ok (.iaload, 1) := by decide +kernel
theorem d_MO_walk_125 : decode b_MO_walk 125 = .ok (.ifCond .ne 9, 3) := by decide +kernel
theorem d_MO_walk_128 : decode b_MO_walk 128 = .ok (.iload 8, 2) := by decide +kernel
theorem d_MO_walk_130 : decode b_MO_walk 130 = .ok (.iload_n 2, 1) := by decide +kernel
theorem d_MO_walk_131 : decode b_MO_walk 131 = .ok (.if_icmp .ne 34, 3) := by decide +kernel
theorem d_MO_walk_134 : decode b_MO_walk 134 = .ok (.aload_n 0, 1) := by decide +kernel
theorem d_MO_walk_135 : decode b_MO_walk 135 = .ok (.iload 7, 2) := by decide +kernel
theorem d_MO_walk_137 : decode b_MO_walk 137 = .ok (.iload 4, 2) := by decide +kernel
theorem d_MO_walk_139 : decode b_MO_walk 139 = .ok (.iload 8, 2) := by decide +kernel
theorem d_MO_walk_141 : decode b_MO_walk 141 = .ok (.invokevirtual 97, 3) := by decide +kernel
theorem d_MO_walk_144 : decode b_MO_walk 144 = .ok (.ifCond .eq 21, 3) := by decide +kernel
theorem d_MO_walk_147 : decode b_MO_walk 147 = .ok (.aload_n 0, 1) := by decide +kernel
theorem d_MO_walk_148 : decode b_MO_walk 148 = .ok (.getfield 51, 3) := by decide +kernel
theorem d_MO_walk_151 : decode b_MO_walk 151 = .ok (.iload 8, 2) := by decide +kernel
theorem d_MO_walk_153 : decode b_MO_walk 153 = .ok (.laload, 1) := by decide +kernel
theorem d_MO_walk_154 : decode b_MO_walk 154 = .ok (.ldc2_w 91, 3) := by decide +kernel
theorem d_MO_walk_157 : decode b_MO_walk 157 = .ok (.lcmp, 1) := by decide +kernel
theorem d_MO_walk_158 : decode b_MO_walk 158 = .ok (.ifCond .eq 7, 3) := by decide +kernel
theorem d_MO_walk_161 : decode b_MO_walk 161 = .ok (.iconst 1, 1) := by decide +kernel
theorem d_MO_walk_162 : decode b_MO_walk 162 = .ok (.goto 4, 3) := by decide +kernel
theorem d_MO_walk_165 : decode b_MO_walk 165 = .ok (.iconst 0, 1) := by decide +kernel
theorem d_MO_walk_166 : decode b_MO_walk 166 = .ok (.istore 9, 2) := by decide +kernel
theorem d_MO_walk_168 : decode b_MO_walk 168 = .ok (.iload 9, 2) := by decide +kernel
theorem d_MO_walk_170 : decode b_MO_walk 170 = .ok (.ifCond .eq 57, 3) := by decide +kernel
theorem d_MO_walk_173 : decode b_MO_walk 173 = .ok (.aload_n 0, 1) := by decide +kernel
theorem d_MO_walk_174 : decode b_MO_walk 174 = .ok (.getfield 51, 3) := by decide +kernel
theorem d_MO_walk_177 : decode b_MO_walk 177 = .ok (.iload 4, 2) := by decide +kernel
theorem d_MO_walk_179 : decode b_MO_walk 179 = .ok (.laload, 1) := by decide +kernel
theorem d_MO_walk_180 : decode b_MO_walk 180 = .ok (.aload_n 0, 1) := by decide +kernel
theorem d_MO_walk_181 : decode b_MO_walk 181 = .ok (.getfield 51, 3) := by decide +kernel
theorem d_MO_walk_184 : decode b_MO_walk 184 = .ok (.iload 8, 2) := by decide +kernel
theorem d_MO_walk_186 : decode b_MO_walk 186 = .ok (.laload, 1) := by decide +kernel
theorem d_MO_walk_187 : decode b_MO_walk 187 = .ok (.ldc2_w 100, 3) := by decide +kernel
theorem d_MO_walk_190 : decode b_MO_walk 190 = .ok (.aload_n 0, 1) := by decide +kernel
theorem d_MO_walk_191 : decode b_MO_walk 191 = .ok (.getfield 32, 3) := by decide +kernel
theorem d_MO_walk_194 : decode b_MO_walk 194 = .ok (.iload 7, 2) := by decide +kernel
theorem d_MO_walk_196 : decode b_MO_walk 196 = .ok (.laload, 1) := by decide +kernel
theorem d_MO_walk_197 : decode b_MO_walk 197 = .ok (.lmul, 1) := by decide +kernel
theorem d_MO_walk_198 : decode b_MO_walk 198 = .ok (.ladd, 1) := by decide +kernel
theorem d_MO_walk_199 : decode b_MO_walk 199 = .ok (.aload_n 0, 1) := by decide +kernel
theorem d_MO_walk_200 : decode b_MO_walk 200 = .ok (.getfield 9, 3) := by decide +kernel
theorem d_MO_walk_203 : decode b_MO_walk 203 = .ok (.iload 4, 2) := by decide +kernel
theorem d_MO_walk_205 : decode b_MO_walk 205 = .ok (.iaload, 1) := by decide +kernel
theorem d_MO_walk_206 : decode b_MO_walk 206 = .ok (.iconst 2, 1) := by decide +kernel
theorem d_MO_walk_207 : decode b_MO_walk 207 = .ok (.if_icmp .ne 7, 3) := by decide +kernel
theorem d_MO_walk_210 : decode b_MO_walk 210 = .ok (.lconst 1, 1) := by decide +kernel
theorem d_MO_walk_211 : decode b_MO_walk 211 = .ok (.goto 4, 3) := by decide +kernel
theorem d_MO_walk_214 : decode b_MO_walk 214 = .ok (.lconst 0, 1) := by decide +kernel
theorem d_MO_walk_215 : decode b_MO_walk 215 = .ok (.ladd, 1) := by decide +kernel
theorem d_MO_walk_216 : decode b_MO_walk 216 = .ok (.lcmp, 1) := by decide +kernel
theorem d_MO_walk_217 : decode b_MO_walk 217 = .ok (.ifCond .ne 10, 3) := by decide +kernel
theorem d_MO_walk_220 : decode b_MO_walk 220 = .ok (.iload 8, 2) := by decide +kernel
theorem d_MO_walk_222 : decode b_MO_walk 222 = .ok (.istore 6, 2) := by decide +kernel
theorem d_MO_walk_224 : decode b_MO_walk 224 = .ok (.goto 6, 3) := by decide +kernel
theorem d_MO_walk_227 : decode b_MO_walk 227 = .ok (.iinc 7 1, 3) := by decide +kernel
theorem d_MO_walk_230 : decode b_MO_walk 230 = .ok (.goto (-171), 3) := by decide +kernel
theorem d_MO_walk_233 : decode b_MO_walk 233 = .ok (.aload_n 0, 1) := by decide +kernel
theorem d_MO_walk_234 : decode b_MO_walk 234 = .ok (.getfield 39, 3) := by decide +kernel
theorem d_MO_walk_237 : decode b_MO_walk 237 = .ok (.iload_n 3, 1) := by decide +kernel
theorem d_MO_walk_238 : decode b_MO_walk 238 = .ok (.bipush 48, 2) := by decide +kernel
theorem d_MO_walk_240 : decode b_MO_walk 240 = .ok (.imul, 1) := by decide +kernel
theorem d_MO_walk_241 : decode b_MO_walk 241 = .ok (.iload 5, 2) := by decide +kernel
theorem d_MO_walk_243 : decode b_MO_walk 243 = .ok (.iadd, 1) := by decide +kernel
theorem d_MO_walk_244 : decode b_MO_walk 244 = .ok (.iload 7, 2) := by decide +kernel
theorem d_MO_walk_246 : decode b_MO_walk 246 = .ok (.iastore, 1) := by decide +kernel
theorem d_MO_walk_247 : decode b_MO_walk 247 = .ok (.iinc 5 1, 3) := by decide +kernel
theorem d_MO_walk_250 : decode b_MO_walk 250 = .ok (.iload 6, 2) := by decide +kernel
theorem d_MO_walk_252 : decode b_MO_walk 252 = .ok (.istore 4, 2) := by decide +kernel
theorem d_MO_walk_254 : decode b_MO_walk 254 = .ok (.goto (-207), 3) := by decide +kernel
theorem d_MO_walk_257 : decode b_MO_walk 257 = .ok (.aload_n 0, 1) := by decide +kernel
theorem d_MO_walk_258 : decode b_MO_walk 258 = .ok (.getfield 42, 3) := by decide +kernel
theorem d_MO_walk_261 : decode b_MO_walk 261 = .ok (.iload_n 3, 1) := by decide +kernel
theorem d_MO_walk_262 : decode b_MO_walk 262 = .ok (.iload 5, 2) := by decide +kernel
theorem d_MO_walk_264 : decode b_MO_walk 264 = .ok (.iastore, 1) := by decide +kernel
theorem d_MO_walk_265 : decode b_MO_walk 265 = .ok (.aload_n 0, 1) := by decide +kernel
theorem d_MO_walk_266 : decode b_MO_walk 266 = .ok (.getfield 45, 3) := by decide +kernel
theorem d_MO_walk_269 : decode b_MO_walk 269 = .ok (.iload_n 3, 1) := by decide +kernel
theorem d_MO_walk_270 : decode b_MO_walk 270 = .ok (.iload_n 1, 1) := by decide +kernel
theorem d_MO_walk_271 : decode b_MO_walk 271 = .ok (.iastore, 1) := by decide +kernel
theorem d_MO_walk_272 : decode b_MO_walk 272 = .ok (.aload_n 0, 1) := by decide +kernel
theorem d_MO_walk_273 : decode b_MO_walk 273 = .ok (.getfield 48, 3) := by decide +kernel
theorem d_MO_walk_276 : decode b_MO_walk 276 = .ok (.iload_n 3, 1) := by decide +kernel
theorem d_MO_walk_277 : decode b_MO_walk 277 = .ok (.iload_n 2, 1) := by decide +kernel
theorem d_MO_walk_278 : decode b_MO_walk 278 = .ok (.iastore, 1) := by decide +kernel
theorem d_MO_walk_279 : decode b_MO_walk 279 = .ok (.iconst 1, 1) := by decide +kernel
theorem d_MO_walk_280 : decode b_MO_walk 280 = .ok (.ireturn, 1) := by decide +kernel
theorem d_MO_pipeOf_0 : decode b_MO_pipeOf 0 = .ok (.aload_n 0, 1) := by decide +kernel
theorem d_MO_pipeOf_1 : decode b_MO_pipeOf 1 = .ok (.iload_n 1, 1) := by decide +kernel
theorem d_MO_pipeOf_2 : decode b_MO_pipeOf 2 = .ok (.invokevirtual 125, 3) := by decide +kernel
theorem d_MO_pipeOf_5 : decode b_MO_pipeOf 5 = .ok (.ifCond .ne 8, 3) := by decide +kernel
theorem d_MO_pipeOf_8 : decode b_MO_pipeOf 8 = .ok (.bipush (-2), 2) := by decide +kernel
theorem d_MO_pipeOf_10 : decode b_MO_pipeOf 10 = .ok (.goto 32, 3) := by decide +kernel
theorem d_MO_pipeOf_13 : decode b_MO_pipeOf 13 = .ok (.iload_n 2, 1) := by decide +kernel
theorem d_MO_pipeOf_14 : decode b_MO_pipeOf 14 = .ok (.ifCond .lt 13, 3) := by decide +kernel
theorem d_MO_pipeOf_17 : decode b_MO_pipeOf 17 = .ok (.iload_n 2, 1) := by decide +kernel
theorem d_MO_pipeOf_18 : decode b_MO_pipeOf 18 = .ok (.aload_n 0, 1) := by decide +kernel
theorem d_MO_pipeOf_19 : decode b_MO_pipeOf 19 = .ok (.getfield 42, 3) := by decide +kernel
theorem d_MO_pipeOf_22 : decode b_MO_pipeOf 22 = .ok (.iload_n 1, 1) := by decide +kernel
theorem d_MO_pipeOf_23 : decode b_MO_pipeOf 23 = .ok (.iaload, 1) := by decide +kernel
theorem d_MO_pipeOf_24 : decode b_MO_pipeOf 24 = .ok (.if_icmp .lt 7, 3) := by decide +kernel
theorem d_MO_pipeOf_27 : decode b_MO_pipeOf 27 = .ok (.iconst (-1), 1) := by decide +kernel
theorem d_MO_pipeOf_28 : decode b_MO_pipeOf 28 = .ok (.goto 14, 3) := by decide +kernel
theorem d_MO_pipeOf_31 : decode b_MO_pipeOf 31 = .ok (.aload_n 0, 1) := by decide +kernel
theorem d_MO_pipeOf_32 : decode b_MO_pipeOf 32 = .ok (.getfield 39, 3) := by decide +kernel
theorem d_MO_pipeOf_35 : decode b_MO_pipeOf 35 = .ok (.iload_n 1, 1) := by decide +kernel
theorem d_MO_pipeOf_36 : decode b_MO_pipeOf 36 = .ok (.bipush 48, 2) := by decide +kernel
theorem d_MO_pipeOf_38 : decode b_MO_pipeOf 38 = .ok (.imul, 1) := by decide +kernel
theorem d_MO_pipeOf_39 : decode b_MO_pipeOf 39 = .ok (.iload_n 2, 1) := by decide +kernel
theorem d_MO_pipeOf_40 : decode b_MO_pipeOf 40 = .ok (.iadd, 1) := by decide +kernel
theorem d_MO_pipeOf_41 : decode b_MO_pipeOf 41 = .ok (.iaload, 1) := by decide +kernel
theorem d_MO_pipeOf_42 : decode b_MO_pipeOf 42 = .ok (.ireturn, 1) := by decide +kernel
theorem d_MO_isWay_0 : decode b_MO_isWay 0 = .ok (.iload_n 1, 1) := by decide +kernel
theorem d_MO_isWay_1 : decode b_MO_isWay 1 = .ok (.ifCond .lt 15, 3) := by decide +kernel
theorem d_MO_isWay_4 : decode b_MO_isWay 4 = .ok (.iload_n 1, 1) := by decide +kernel
theorem d_MO_isWay_5 : decode b_MO_isWay 5 = .ok (.aload_n 0, 1) := by decide +kernel
theorem d_MO_isWay_6 : decode b_MO_isWay 6 = .ok (.getfield 116, 3) := by decide +kernel
theorem d_MO_isWay_9 : decode b_MO_isWay 9 = .ok (.if_icmp .ge 7, 3) := by decide +kernel
theorem d_MO_isWay_12 : decode b_MO_isWay 12 = .ok (.iconst 1, 1) := by decide +kernel
theorem d_MO_isWay_13 : decode b_MO_isWay 13 = .ok (.goto 4, 3) := by decide +kernel
theorem d_MO_isWay_16 : decode b_MO_isWay 16 = .ok (.iconst 0, 1) := by decide +kernel
theorem d_MO_isWay_17 : decode b_MO_isWay 17 = .ok (.ireturn, 1) := by decide +kernel
theorem d_MO_valveOf_0 : decode b_MO_valveOf 0 = .ok (.aload_n 0, 1) := by decide +kernel
theorem d_MO_valveOf_1 : decode b_MO_valveOf 1 = .ok (.iload_n 1, 1) := by decide +kernel
theorem d_MO_valveOf_2 : decode b_MO_valveOf 2 = .ok (.invokevirtual 125, 3) := by decide +kernel
theorem d_MO_valveOf_5 : decode b_MO_valveOf 5 = .ok (.ifCond .ne 6, 3) := by decide +kernel
theorem d_MO_valveOf_8 : decode b_MO_valveOf 8 = .ok (.bipush (-2), 2) := by decide +kernel
theorem d_MO_valveOf_10 : decode b_MO_valveOf 10 = .ok (.ireturn, 1) := by decide +kernel
theorem d_MO_valveOf_11 : decode b_MO_valveOf 11 = .ok (.iconst 0, 1) := by decide +kernel
theorem d_MO_valveOf_12 : decode b_MO_valveOf 12 = .ok (.istore_n 3, 1) := by decide +kernel
theorem d_MO_valveOf_13 : decode b_MO_valveOf 13 = .ok (.iconst 0, 1) := by decide +kernel
theorem d_MO_valveOf_14 : decode b_MO_valveOf 14 = .ok (.istore 4, 2) := by decide +kernel
theorem d_MO_valveOf_16 : decode b_MO_valveOf 16 = .ok (.iload 4, 2) := by decide +kernel
theorem d_MO_valveOf_18 : decode b_MO_valveOf 18 = .ok (.aload_n 0, 1) := by decide +kernel
theorem d_MO_valveOf_19 : decode b_MO_valveOf 19 = .ok (.getfield 42, 3) := by decide +kernel
theorem d_MO_valveOf_22 : decode b_MO_valveOf 22 = .ok (.iload_n 1, 1) := by decide +kernel
theorem d_MO_valveOf_23 : decode b_MO_valveOf 23 = .ok (.iaload, 1) := by decide +kernel
theorem d_MO_valveOf_24 : decode b_MO_valveOf 24 = .ok (.if_icmp .ge 40, 3) := by decide +kernel
theorem d_MO_valveOf_27 : decode b_MO_valveOf 27 = .ok (.aload_n 0, 1) := by decide +kernel
theorem d_MO_valveOf_28 : decode b_MO_valveOf 28 = .ok (.iload_n 1, 1) := by decide +kernel
theorem d_MO_valveOf_29 : decode b_MO_valveOf 29 = .ok (.iload 4, 2) := by decide +kernel
theorem d_MO_valveOf_31 : decode b_MO_valveOf 31 = .ok (.invokevirtual 128, 3) := by decide +kernel
theorem d_MO_valveOf_34 : decode b_MO_valveOf 34 = .ok (.istore 5, 2) := by decide +kernel
theorem d_MO_valveOf_36 : decode b_MO_valveOf 36 = .ok (.aload_n 0, 1) := by decide +kernel
theorem d_MO_valveOf_37 : decode b_MO_valveOf 37 = .ok (.getfield 9, 3) := by decide +kernel
theorem d_MO_valveOf_40 : decode b_MO_valveOf 40 = .ok (.iload 5, 2) := by decide +kernel
theorem d_MO_valveOf_42 : decode b_MO_valveOf 42 = .ok (.iaload, 1) := by decide +kernel
theorem d_MO_valveOf_43 : decode b_MO_valveOf 43 = .ok (.iconst 2, 1) := by decide +kernel
theorem d_MO_valveOf_44 : decode b_MO_valveOf 44 = .ok (.if_icmp .ne 14, 3) := by decide +kernel
theorem d_MO_valveOf_47 : decode b_MO_valveOf 47 = .ok (.iload_n 3, 1) := by decide +kernel
theorem d_MO_valveOf_48 : decode b_MO_valveOf 48 = .ok (.iload_n 2, 1) := by decide +kernel
theorem d_MO_valveOf_49 : decode b_MO_valveOf 49 = .ok (.if_icmp .ne 6, 3) := by decide +kernel
theorem d_MO_valveOf_52 : decode b_MO_valveOf 52 = .ok (.iload 5, 2) := by decide +kernel
theorem d_MO_valveOf_54 : decode b_MO_valveOf 54 = .ok (.ireturn, 1) := by decide +kernel
theorem d_MO_valveOf_55 : decode b_MO_valveOf 55 = .ok (.iinc 3 1, 3) := by decide +kernel
theorem d_MO_valveOf_58 : decode b_MO_valveOf 58 = .ok (.iinc 4 1, 3) := by decide +kernel
theorem d_MO_valveOf_61 : decode b_MO_valveOf 61 = .ok (.goto (-45), 3) := by decide +kernel
theorem d_MO_valveOf_64 : decode b_MO_valveOf 64 = .ok (.iconst (-1), 1) := by decide +kernel
theorem d_MO_valveOf_65 : decode b_MO_valveOf 65 = .ok (.ireturn, 1) := by decide +kernel
theorem d_MO_behind_0 : decode b_MO_behind 0 = .ok (.aload_n 0, 1) := by decide +kernel
theorem d_MO_behind_1 : decode b_MO_behind 1 = .ok (.getfield 45, 3) := by decide +kernel
theorem d_MO_behind_4 : decode b_MO_behind 4 = .ok (.iload_n 1, 1) := by decide +kernel
theorem d_MO_behind_5 : decode b_MO_behind 5 = .ok (.iaload, 1) := by decide +kernel
theorem d_MO_behind_6 : decode b_MO_behind 6 = .ok (.istore_n 3, 1) := by decide +kernel
theorem d_MO_behind_7 : decode b_MO_behind 7 = .ok (.iconst 0, 1) := by decide +kernel
theorem d_MO_behind_8 : decode b_MO_behind 8 = .ok (.istore 4, 2) := by decide +kernel
theorem d_MO_behind_10 : decode b_MO_behind 10 = .ok (.iload 4, 2) := by decide +kernel
theorem d_MO_behind_12 : decode b_MO_behind 12 = .ok (.iload_n 2, 1) := by decide +kernel
theorem d_MO_behind_13 : decode b_MO_behind 13 = .ok (.if_icmp .gt 52, 3) := by decide +kernel
theorem d_MO_behind_16 : decode b_MO_behind 16 = .ok (.aload_n 0, 1) := by decide +kernel
theorem d_MO_behind_17 : decode b_MO_behind 17 = .ok (.getfield 39, 3) := by decide +kernel
theorem d_MO_behind_20 : decode b_MO_behind 20 = .ok (.iload_n 1, 1) := by decide +kernel
theorem d_MO_behind_21 : decode b_MO_behind 21 = .ok (.bipush 48, 2) := by decide +kernel
theorem d_MO_behind_23 : decode b_MO_behind 23 = .ok (.imul, 1) := by decide +kernel
theorem d_MO_behind_24 : decode b_MO_behind 24 = .ok (.iload 4, 2) := by decide +kernel
theorem d_MO_behind_26 : decode b_MO_behind 26 = .ok (.iadd, 1) := by decide +kernel
theorem d_MO_behind_27 : decode b_MO_behind 27 = .ok (.iaload, 1) := by decide +kernel
theorem d_MO_behind_28 : decode b_MO_behind 28 = .ok (.istore 5, 2) := by decide +kernel
theorem d_MO_behind_30 : decode b_MO_behind 30 = .ok (.aload_n 0, 1) := by decide +kernel
theorem d_MO_behind_31 : decode b_MO_behind 31 = .ok (.getfield 26, 3) := by decide +kernel
theorem d_MO_behind_34 : decode b_MO_behind 34 = .ok (.iload 5, 2) := by decide +kernel
theorem d_MO_behind_36 : decode b_MO_behind 36 = .ok (.iaload, 1) := by decide +kernel
theorem d_MO_behind_37 : decode b_MO_behind 37 = .ok (.iload_n 3, 1) := by decide +kernel
theorem d_MO_behind_38 : decode b_MO_behind 38 = .ok (.if_icmp .ne 13, 3) := by decide +kernel
theorem d_MO_behind_41 : decode b_MO_behind 41 = .ok (.aload_n 0, 1) := by decide +kernel
theorem d_MO_behind_42 : decode b_MO_behind 42 = .ok (.getfield 29, 3) := by decide +kernel
theorem d_MO_behind_45 : decode b_MO_behind 45 = .ok (.iload 5, 2) := by decide +kernel
theorem d_MO_behind_47 : decode b_MO_behind 47 = .ok (.iaload, 1) := by decide +kernel
theorem d_MO_behind_48 : decode b_MO_behind 48 = .ok (.goto 10, 3) := by decide +kernel
theorem d_MO_behind_51 : decode b_MO_behind 51 = .ok (.aload_n 0, 1) := by decide +kernel
theorem d_MO_behind_52 : decode b_MO_behind 52 = .ok (.getfield 26, 3) := by decide +kernel
theorem d_MO_behind_55 : decode b_MO_behind 55 = .ok (.iload 5, 2) := by decide +kernel
theorem d_MO_behind_57 : decode b_MO_behind 57 = .ok (.iaload, 1) := by decide +kernel
theorem d_MO_behind_58 : decode b_MO_behind 58 = .ok (.istore_n 3, 1) := by decide +kernel
theorem d_MO_behind_59 : decode b_MO_behind 59 = .ok (.iinc 4 1, 3) := by decide +kernel
theorem d_MO_behind_62 : decode b_MO_behind 62 = .ok (.goto (-52), 3) := by decide +kernel
theorem d_MO_behind_65 : decode b_MO_behind 65 = .ok (.iload_n 3, 1) := by decide +kernel
theorem d_MO_behind_66 : decode b_MO_behind 66 = .ok (.ireturn, 1) := by decide +kernel
theorem d_MO_rest_0 : decode b_MO_rest 0 = .ok (.aload_n 0, 1) := by decide +kernel
theorem d_MO_rest_1 : decode b_MO_rest 1 = .ok (.iload_n 1, 1) := by decide +kernel
theorem d_MO_rest_2 : decode b_MO_rest 2 = .ok (.invokevirtual 125, 3) := by decide +kernel
theorem d_MO_rest_5 : decode b_MO_rest 5 = .ok (.ifCond .ne 7, 3) := by decide +kernel
theorem d_MO_rest_8 : decode b_MO_rest 8 = .ok (.ldc2_w 131, 3) := by decide +kernel
theorem d_MO_rest_11 : decode b_MO_rest 11 = .ok (.lreturn, 1) := by decide +kernel
theorem d_MO_rest_12 : decode b_MO_rest 12 = .ok (.lconst 0, 1) := by decide +kernel
theorem d_MO_rest_13 : decode b_MO_rest 13 = .ok (.lstore_n 2, 1) := by decide +kernel
theorem d_MO_rest_14 : decode b_MO_rest 14 = .ok (.iconst 0, 1) := by decide +kernel
theorem d_MO_rest_15 : decode b_MO_rest 15 = .ok (.istore 4, 2) := by decide +kernel
theorem d_MO_rest_17 : decode b_MO_rest 17 = .ok (.iload 4, 2) := by decide +kernel
theorem d_MO_rest_19 : decode b_MO_rest 19 = .ok (.aload_n 0, 1) := by decide +kernel
theorem d_MO_rest_20 : decode b_MO_rest 20 = .ok (.getfield 42, 3) := by decide +kernel
theorem d_MO_rest_23 : decode b_MO_rest 23 = .ok (.iload_n 1, 1) := by decide +kernel
theorem d_MO_rest_24 : decode b_MO_rest 24 = .ok (.iaload, 1) := by decide +kernel
theorem d_MO_rest_25 : decode b_MO_rest 25 = .ok (.if_icmp .ge 29, 3) := by decide +kernel
theorem d_MO_rest_28 : decode b_MO_rest 28 = .ok (.lload_n 2, 1) := by decide +kernel
theorem d_MO_rest_29 : decode b_MO_rest 29 = .ok (.aload_n 0, 1) := by decide +kernel
theorem d_MO_rest_30 : decode b_MO_rest 30 = .ok (.getfield 32, 3) := by decide +kernel
theorem d_MO_rest_33 : decode b_MO_rest 33 = .ok (.aload_n 0, 1) := by decide +kernel
theorem d_MO_rest_34 : decode b_MO_rest 34 = .ok (.getfield 39, 3) := by decide +kernel
theorem d_MO_rest_37 : decode b_MO_rest 37 = .ok (.iload_n 1, 1) := by decide +kernel
theorem d_MO_rest_38 : decode b_MO_rest 38 = .ok (.bipush 48, 2) := by decide +kernel
theorem d_MO_rest_40 : decode b_MO_rest 40 = .ok (.imul, 1) := by decide +kernel
theorem d_MO_rest_41 : decode b_MO_rest 41 = .ok (.iload 4, 2) := by decide +kernel
theorem d_MO_rest_43 : decode b_MO_rest 43 = .ok (.iadd, 1) := by decide +kernel
theorem d_MO_rest_44 : decode b_MO_rest 44 = .ok (.iaload, 1) := by decide +kernel
theorem d_MO_rest_45 : decode b_MO_rest 45 = .ok (.laload, 1) := by decide +kernel
theorem d_MO_rest_46 : decode b_MO_rest 46 = .ok (.ladd, 1) := by decide +kernel
theorem d_MO_rest_47 : decode b_MO_rest 47 = .ok (.lstore_n 2, 1) := by decide +kernel
theorem d_MO_rest_48 : decode b_MO_rest 48 = .ok (.iinc 4 1, 3) := by decide +kernel
theorem d_MO_rest_51 : decode b_MO_rest 51 = .ok (.goto (-34), 3) := by decide +kernel
theorem d_MO_rest_54 : decode b_MO_rest 54 = .ok (.lload_n 2, 1) := by decide +kernel
theorem d_MO_rest_55 : decode b_MO_rest 55 = .ok (.lreturn, 1) := by decide +kernel
theorem d_MO_other_0 : decode b_MO_other 0 = .ok (.aload_n 0, 1) := by decide +kernel
theorem d_MO_other_1 : decode b_MO_other 1 = .ok (.iload_n 1, 1) := by decide +kernel
theorem d_MO_other_2 : decode b_MO_other 2 = .ok (.invokevirtual 125, 3) := by decide +kernel
theorem d_MO_other_5 : decode b_MO_other 5 = .ok (.ifCond .ne 6, 3) := by decide +kernel
theorem d_MO_other_8 : decode b_MO_other 8 = .ok (.bipush (-2), 2) := by decide +kernel
theorem d_MO_other_10 : decode b_MO_other 10 = .ok (.ireturn, 1) := by decide +kernel
theorem d_MO_other_11 : decode b_MO_other 11 = .ok (.iload_n 2, 1) := by decide +kernel
theorem d_MO_other_12 : decode b_MO_other 12 = .ok (.ifCond .lt 13, 3) := by decide +kernel
theorem d_MO_other_15 : decode b_MO_other 15 = .ok (.iload_n 2, 1) := by decide +kernel
theorem d_MO_other_16 : decode b_MO_other 16 = .ok (.aload_n 0, 1) := by decide +kernel
theorem d_MO_other_17 : decode b_MO_other 17 = .ok (.getfield 42, 3) := by decide +kernel
theorem d_MO_other_20 : decode b_MO_other 20 = .ok (.iload_n 1, 1) := by decide +kernel
theorem d_MO_other_21 : decode b_MO_other 21 = .ok (.iaload, 1) := by decide +kernel
theorem d_MO_other_22 : decode b_MO_other 22 = .ok (.if_icmp .lt 5, 3) := by decide +kernel
theorem d_MO_other_25 : decode b_MO_other 25 = .ok (.iconst (-1), 1) := by decide +kernel
theorem d_MO_other_26 : decode b_MO_other 26 = .ok (.ireturn, 1) := by decide +kernel
theorem d_MO_other_27 : decode b_MO_other 27 = .ok (.aload_n 0, 1) := by decide +kernel
theorem d_MO_other_28 : decode b_MO_other 28 = .ok (.invokevirtual 113, 3) := by decide +kernel
theorem d_MO_other_31 : decode b_MO_other 31 = .ok (.aload_n 0, 1) := by decide +kernel
theorem d_MO_other_32 : decode b_MO_other 32 = .ok (.getfield 57, 3) := by decide +kernel
theorem d_MO_other_35 : decode b_MO_other 35 = .ok (.aload_n 0, 1) := by decide +kernel
theorem d_MO_other_36 : decode b_MO_other 36 = .ok (.getfield 39, 3) := by decide +kernel
theorem d_MO_other_39 : decode b_MO_other 39 = .ok (.iload_n 1, 1) := by decide +kernel
theorem d_MO_other_40 : decode b_MO_other 40 = .ok (.bipush 48, 2) := by decide +kernel
theorem d_MO_other_42 : decode b_MO_other 42 = .ok (.imul, 1) := by decide +kernel
theorem d_MO_other_43 : decode b_MO_other 43 = .ok (.iload_n 2, 1) := by decide +kernel
theorem d_MO_other_44 : decode b_MO_other 44 = .ok (.iadd, 1) := by decide +kernel
theorem d_MO_other_45 : decode b_MO_other 45 = .ok (.iaload, 1) := by decide +kernel
theorem d_MO_other_46 : decode b_MO_other 46 = .ok (.iconst 1, 1) := by decide +kernel
theorem d_MO_other_47 : decode b_MO_other 47 = .ok (.bastore, 1) := by decide +kernel
theorem d_MO_other_48 : decode b_MO_other 48 = .ok (.aload_n 0, 1) := by decide +kernel
theorem d_MO_other_49 : decode b_MO_other 49 = .ok (.getfield 116, 3) := by decide +kernel
theorem d_MO_other_52 : decode b_MO_other 52 = .ok (.bipush 64, 2) := by decide +kernel
theorem d_MO_other_54 : decode b_MO_other 54 = .ok (.if_icmp .ne 29, 3) := by decide +kernel
theorem d_MO_other_57 : decode b_MO_other 57 = .ok (.aload_n 0, 1) := by decide +kernel
theorem d_MO_other_58 : decode b_MO_other 58 = .ok (.aload_n 0, 1) := by decide +kernel
theorem d_MO_other_59 : decode b_MO_other 59 = .ok (.getfield 45, 3) := by decide +kernel
theorem d_MO_other_62 : decode b_MO_other 62 = .ok (.iload_n 1, 1) := by decide +kernel
theorem d_MO_other_63 : decode b_MO_other 63 = .ok (.iaload, 1) := by decide +kernel
theorem d_MO_other_64 : decode b_MO_other 64 = .ok (.aload_n 0, 1) := by decide +kernel
theorem d_MO_other_65 : decode b_MO_other 65 = .ok (.getfield 48, 3) := by decide +kernel
theorem d_MO_other_68 : decode b_MO_other 68 = .ok (.iload_n 1, 1) := by decide +kernel
theorem d_MO_other_69 : decode b_MO_other 69 = .ok (.iaload, 1) := by decide +kernel
theorem d_MO_other_70 : decode b_MO_other 70 = .ok (.invokevirtual 119, 3) := by decide +kernel
theorem d_MO_other_73 : decode b_MO_other 73 = .ok (.ifCond .eq 8, 3) := by decide +kernel
theorem d_MO_other_76 : decode b_MO_other 76 = .ok (.bipush (-5), 2) := by decide +kernel
theorem d_MO_other_78 : decode b_MO_other 78 = .ok (.goto 4, 3) := by decide +kernel
theorem d_MO_other_81 : decode b_MO_other 81 = .ok (.iconst (-1), 1) := by decide +kernel
theorem d_MO_other_82 : decode b_MO_other 82 = .ok (.ireturn, 1) := by decide +kernel
theorem d_MO_other_83 : decode b_MO_other 83 = .ok (.aload_n 0, 1) := by decide +kernel
theorem d_MO_other_84 : decode b_MO_other 84 = .ok (.aload_n 0, 1) := by decide +kernel
theorem d_MO_other_85 : decode b_MO_other 85 = .ok (.getfield 45, 3) := by decide +kernel
theorem d_MO_other_88 : decode b_MO_other 88 = .ok (.iload_n 1, 1) := by decide +kernel
theorem d_MO_other_89 : decode b_MO_other 89 = .ok (.iaload, 1) := by decide +kernel
theorem d_MO_other_90 : decode b_MO_other 90 = .ok (.aload_n 0, 1) := by decide +kernel
theorem d_MO_other_91 : decode b_MO_other 91 = .ok (.getfield 48, 3) := by decide +kernel
theorem d_MO_other_94 : decode b_MO_other 94 = .ok (.iload_n 1, 1) := by decide +kernel
theorem d_MO_other_95 : decode b_MO_other 95 = .ok (.iaload, 1) := by decide +kernel
theorem d_MO_other_96 : decode b_MO_other 96 = .ok (.aload_n 0, 1) := by decide +kernel
theorem d_MO_other_97 : decode b_MO_other 97 = .ok (.getfield 116, 3) := by decide +kernel
theorem d_MO_other_100 : decode b_MO_other 100 = .ok (.invokevirtual 122, 3) := by decide +kernel
theorem d_MO_other_103 : decode b_MO_other 103 = .ok (.ifCond .ne 5, 3) := by decide +kernel
theorem d_MO_other_106 : decode b_MO_other 106 = .ok (.iconst (-1), 1) := by decide +kernel
theorem d_MO_other_107 : decode b_MO_other 107 = .ok (.ireturn, 1) := by decide +kernel
theorem d_MO_other_108 : decode b_MO_other 108 = .ok (.aload_n 0, 1) := by decide +kernel
theorem d_MO_other_109 : decode b_MO_other 109 = .ok (.dup, 1) := by decide +kernel
theorem d_MO_other_110 : decode b_MO_other 110 = .ok (.getfield 116, 3) := by decide +kernel
theorem d_MO_other_113 : decode b_MO_other 113 = .ok (.iconst 1, 1) := by decide +kernel
theorem d_MO_other_114 : decode b_MO_other 114 = .ok (.iadd, 1) := by decide +kernel
theorem d_MO_other_115 : decode b_MO_other 115 = .ok (.putfield 116, 3) := by decide +kernel
theorem d_MO_other_118 : decode b_MO_other 118 = .ok (.aload_n 0, 1) := by decide +kernel
theorem d_MO_other_119 : decode b_MO_other 119 = .ok (.getfield 116, 3) := by decide +kernel
theorem d_MO_other_122 : decode b_MO_other 122 = .ok (.iconst 1, 1) := by decide +kernel
theorem d_MO_other_123 : decode b_MO_other 123 = .ok (.isub, 1) := by decide +kernel
theorem d_MO_other_124 : decode b_MO_other 124 = .ok (.ireturn, 1) := by decide +kernel
theorem d_MO_two_0 : decode b_MO_two 0 = .ok (.aload_n 0, 1) := by decide +kernel
theorem d_MO_two_1 : decode b_MO_two 1 = .ok (.iload_n 1, 1) := by decide +kernel
theorem d_MO_two_2 : decode b_MO_two 2 = .ok (.iload_n 2, 1) := by decide +kernel
theorem d_MO_two_3 : decode b_MO_two 3 = .ok (.invokevirtual 109, 3) := by decide +kernel
theorem d_MO_two_6 : decode b_MO_two 6 = .ok (.istore 5, 2) := by decide +kernel
theorem d_MO_two_8 : decode b_MO_two 8 = .ok (.iload 5, 2) := by decide +kernel
theorem d_MO_two_10 : decode b_MO_two 10 = .ok (.ifCond .eq 8, 3) := by decide +kernel
theorem d_MO_two_13 : decode b_MO_two 13 = .ok (.iload 5, 2) := by decide +kernel
theorem d_MO_two_15 : decode b_MO_two 15 = .ok (.goto 10, 3) := by decide +kernel
theorem d_MO_two_18 : decode b_MO_two 18 = .ok (.aload_n 0, 1) := by decide +kernel
theorem d_MO_two_19 : decode b_MO_two 19 = .ok (.iload_n 3, 1) := by decide +kernel
theorem d_MO_two_20 : decode b_MO_two 20 = .ok (.iload 4, 2) := by decide +kernel
theorem d_MO_two_22 : decode b_MO_two 22 = .ok (.invokevirtual 109, 3) := by decide +kernel
theorem d_MO_two_25 : decode b_MO_two 25 = .ok (.istore 5, 2) := by decide +kernel
theorem d_MO_two_27 : decode b_MO_two 27 = .ok (.iload 5, 2) := by decide +kernel
theorem d_MO_two_29 : decode b_MO_two 29 = .ok (.ifCond .eq 6, 3) := by decide +kernel
theorem d_MO_two_32 : decode b_MO_two 32 = .ok (.iload 5, 2) := by decide +kernel
theorem d_MO_two_34 : decode b_MO_two 34 = .ok (.ireturn, 1) := by decide +kernel
theorem d_MO_two_35 : decode b_MO_two 35 = .ok (.aload_n 0, 1) := by decide +kernel
theorem d_MO_two_36 : decode b_MO_two 36 = .ok (.getfield 116, 3) := by decide +kernel
theorem d_MO_two_39 : decode b_MO_two 39 = .ok (.bipush 63, 2) := by decide +kernel
theorem d_MO_two_41 : decode b_MO_two 41 = .ok (.if_icmp .ge 10, 3) := by decide +kernel
theorem d_MO_two_44 : decode b_MO_two 44 = .ok (.aload_n 0, 1) := by decide +kernel
theorem d_MO_two_45 : decode b_MO_two 45 = .ok (.getfield 116, 3) := by decide +kernel
theorem d_MO_two_48 : decode b_MO_two 48 = .ok (.goto 5, 3) := by decide +kernel
theorem d_MO_two_51 : decode b_MO_two 51 = .ok (.bipush 62, 2) := by decide +kernel
theorem d_MO_two_53 : decode b_MO_two 53 = .ok (.istore 6, 2) := by decide +kernel
theorem d_MO_two_55 : decode b_MO_two 55 = .ok (.iconst 0, 1) := by decide +kernel
theorem d_MO_two_56 : decode b_MO_two 56 = .ok (.istore 7, 2) := by decide +kernel
theorem d_MO_two_58 : decode b_MO_two 58 = .ok (.iload 7, 2) := by decide +kernel
theorem d_MO_two_60 : decode b_MO_two 60 = .ok (.bipush 48, 2) := by decide +kernel
theorem d_MO_two_62 : decode b_MO_two 62 = .ok (.if_icmp .ge 51, 3) := by decide +kernel
theorem d_MO_two_65 : decode b_MO_two 65 = .ok (.aload_n 0, 1) := by decide +kernel
theorem d_MO_two_66 : decode b_MO_two 66 = .ok (.getfield 60, 3) := by decide +kernel
theorem d_MO_two_69 : decode b_MO_two 69 = .ok (.iload 7, 2) := by decide +kernel
theorem d_MO_two_71 : decode b_MO_two 71 = .ok (.aload_n 0, 1) := by decide +kernel
theorem d_MO_two_72 : decode b_MO_two 72 = .ok (.getfield 39, 3) := by decide +kernel
theorem d_MO_two_75 : decode b_MO_two 75 = .ok (.iload 6, 2) := by decide +kernel
theorem d_MO_two_77 : decode b_MO_two 77 = .ok (.bipush 48, 2) := by decide +kernel
theorem d_MO_two_79 : decode b_MO_two 79 = .ok (.imul, 1) := by decide +kernel
theorem d_MO_two_80 : decode b_MO_two 80 = .ok (.iload 7, 2) := by decide +kernel
theorem d_MO_two_82 : decode b_MO_two 82 = .ok (.iadd, 1) := by decide +kernel
theorem d_MO_two_83 : decode b_MO_two 83 = .ok (.iaload, 1) := by decide +kernel
theorem d_MO_two_84 : decode b_MO_two 84 = .ok (.iastore, 1) := by decide +kernel
theorem d_MO_two_85 : decode b_MO_two 85 = .ok (.aload_n 0, 1) := by decide +kernel
theorem d_MO_two_86 : decode b_MO_two 86 = .ok (.getfield 63, 3) := by decide +kernel
theorem d_MO_two_89 : decode b_MO_two 89 = .ok (.iload 7, 2) := by decide +kernel
theorem d_MO_two_91 : decode b_MO_two 91 = .ok (.aload_n 0, 1) := by decide +kernel
theorem d_MO_two_92 : decode b_MO_two 92 = .ok (.getfield 39, 3) := by decide +kernel
theorem d_MO_two_95 : decode b_MO_two 95 = .ok (.iload 6, 2) := by decide +kernel
theorem d_MO_two_97 : decode b_MO_two 97 = .ok (.iconst 1, 1) := by decide +kernel
theorem d_MO_two_98 : decode b_MO_two 98 = .ok (.iadd, 1) := by decide +kernel
theorem d_MO_two_99 : decode b_MO_two 99 = .ok (.bipush 48, 2) := by decide +kernel
theorem d_MO_two_101 : decode b_MO_two 101 = .ok (.imul, 1) := by decide +kernel
theorem d_MO_two_102 : decode b_MO_two 102 = .ok (.iload 7, 2) := by decide +kernel
theorem d_MO_two_104 : decode b_MO_two 104 = .ok (.iadd, 1) := by decide +kernel
theorem d_MO_two_105 : decode b_MO_two 105 = .ok (.iaload, 1) := by decide +kernel
theorem d_MO_two_106 : decode b_MO_two 106 = .ok (.iastore, 1) := by decide +kernel
theorem d_MO_two_107 : decode b_MO_two 107 = .ok (.iinc 7 1, 3) := by decide +kernel
theorem d_MO_two_110 : decode b_MO_two 110 = .ok (.goto (-52), 3) := by decide +kernel
theorem d_MO_two_113 : decode b_MO_two 113 = .ok (.aload_n 0, 1) := by decide +kernel
theorem d_MO_two_114 : decode b_MO_two 114 = .ok (.getfield 42, 3) := by decide +kernel
theorem d_MO_two_117 : decode b_MO_two 117 = .ok (.iload 6, 2) := by decide +kernel
theorem d_MO_two_119 : decode b_MO_two 119 = .ok (.iaload, 1) := by decide +kernel
theorem d_MO_two_120 : decode b_MO_two 120 = .ok (.istore 7, 2) := by decide +kernel
theorem d_MO_two_122 : decode b_MO_two 122 = .ok (.aload_n 0, 1) := by decide +kernel
theorem d_MO_two_123 : decode b_MO_two 123 = .ok (.getfield 42, 3) := by decide +kernel
theorem d_MO_two_126 : decode b_MO_two 126 = .ok (.iload 6, 2) := by decide +kernel
theorem d_MO_two_128 : decode b_MO_two 128 = .ok (.iconst 1, 1) := by decide +kernel
theorem d_MO_two_129 : decode b_MO_two 129 = .ok (.iadd, 1) := by decide +kernel
theorem d_MO_two_130 : decode b_MO_two 130 = .ok (.iaload, 1) := by decide +kernel
theorem d_MO_two_131 : decode b_MO_two 131 = .ok (.istore 8, 2) := by decide +kernel
theorem d_MO_two_133 : decode b_MO_two 133 = .ok (.aload_n 0, 1) := by decide +kernel
theorem d_MO_two_134 : decode b_MO_two 134 = .ok (.getfield 45, 3) := by decide +kernel
theorem d_MO_two_137 : decode b_MO_two 137 = .ok (.iload 6, 2) := by decide +kernel
theorem d_MO_two_139 : decode b_MO_two 139 = .ok (.iaload, 1) := by decide +kernel
theorem d_MO_two_140 : decode b_MO_two 140 = .ok (.istore 9, 2) := by decide +kernel
theorem d_MO_two_142 : decode b_MO_two 142 = .ok (.aload_n 0, 1) := by decide +kernel
theorem d_MO_two_143 : decode b_MO_two 143 = .ok (.getfield 45, 3) := by decide +kernel
theorem d_MO_two_146 : decode b_MO_two 146 = .ok (.iload 6, 2) := by decide +kernel
theorem d_MO_two_148 : decode b_MO_two 148 = .ok (.iconst 1, 1) := by decide +kernel
theorem d_MO_two_149 : decode b_MO_two 149 = .ok (.iadd, 1) := by decide +kernel
theorem d_MO_two_150 : decode b_MO_two 150 = .ok (.iaload, 1) := by decide +kernel
theorem d_MO_two_151 : decode b_MO_two 151 = .ok (.istore 10, 2) := by decide +kernel
theorem d_MO_two_153 : decode b_MO_two 153 = .ok (.aload_n 0, 1) := by decide +kernel
theorem d_MO_two_154 : decode b_MO_two 154 = .ok (.getfield 48, 3) := by decide +kernel
theorem d_MO_two_157 : decode b_MO_two 157 = .ok (.iload 6, 2) := by decide +kernel
theorem d_MO_two_159 : decode b_MO_two 159 = .ok (.iaload, 1) := by decide +kernel
theorem d_MO_two_160 : decode b_MO_two 160 = .ok (.istore 11, 2) := by decide +kernel
theorem d_MO_two_162 : decode b_MO_two 162 = .ok (.aload_n 0, 1) := by decide +kernel
theorem d_MO_two_163 : decode b_MO_two 163 = .ok (.getfield 48, 3) := by decide +kernel
theorem d_MO_two_166 : decode b_MO_two 166 = .ok (.iload 6, 2) := by decide +kernel
theorem d_MO_two_168 : decode b_MO_two 168 = .ok (.iconst 1, 1) := by decide +kernel
theorem d_MO_two_169 : decode b_MO_two 169 = .ok (.iadd, 1) := by decide +kernel
theorem d_MO_two_170 : decode b_MO_two 170 = .ok (.iaload, 1) := by decide +kernel
theorem d_MO_two_171 : decode b_MO_two 171 = .ok (.istore 12, 2) := by decide +kernel
theorem d_MO_two_173 : decode b_MO_two 173 = .ok (.aload_n 0, 1) := by decide +kernel
theorem d_MO_two_174 : decode b_MO_two 174 = .ok (.iload_n 1, 1) := by decide +kernel
theorem d_MO_two_175 : decode b_MO_two 175 = .ok (.iload_n 2, 1) := by decide +kernel
theorem d_MO_two_176 : decode b_MO_two 176 = .ok (.iload_n 3, 1) := by decide +kernel
theorem d_MO_two_177 : decode b_MO_two 177 = .ok (.iload 4, 2) := by decide +kernel
theorem d_MO_two_179 : decode b_MO_two 179 = .ok (.iload 6, 2) := by decide +kernel
theorem d_MO_two_181 : decode b_MO_two 181 = .ok (.invokevirtual 133, 3) := by decide +kernel
theorem d_MO_two_184 : decode b_MO_two 184 = .ok (.istore 13, 2) := by decide +kernel
theorem d_MO_two_186 : decode b_MO_two 186 = .ok (.iload 13, 2) := by decide +kernel
theorem d_MO_two_188 : decode b_MO_two 188 = .ok (.ifCond .eq 29, 3) := by decide +kernel
theorem d_MO_two_191 : decode b_MO_two 191 = .ok (.aload_n 0, 1) := by decide +kernel
theorem d_MO_two_192 : decode b_MO_two 192 = .ok (.getfield 116, 3) := by decide +kernel
theorem d_MO_two_195 : decode b_MO_two 195 = .ok (.bipush 62, 2) := by decide +kernel
theorem d_MO_two_197 : decode b_MO_two 197 = .ok (.if_icmp .gt 20, 3) := by decide +kernel
theorem d_MO_two_200 : decode b_MO_two 200 = .ok (.aload_n 0, 1) := by decide +kernel
theorem d_MO_two_201 : decode b_MO_two 201 = .ok (.dup, 1) := by decide +kernel
theorem d_MO_two_202 : decode b_MO_two 202 = .ok (.getfield 116, 3) := by decide +kernel
theorem d_MO_two_205 : decode b_MO_two 205 = .ok (.iconst 2, 1) := by decide +kernel
theorem d_MO_two_206 : decode b_MO_two 206 = .ok (.iadd, 1) := by decide +kernel
theorem d_MO_two_207 : decode b_MO_two 207 = .ok (.putfield 116, 3) := by decide +kernel
theorem d_MO_two_210 : decode b_MO_two 210 = .ok (.aload_n 0, 1) := by decide +kernel
theorem d_MO_two_211 : decode b_MO_two 211 = .ok (.getfield 116, 3) := by decide +kernel
theorem d_MO_two_214 : decode b_MO_two 214 = .ok (.iconst 1, 1) := by decide +kernel
theorem d_MO_two_215 : decode b_MO_two 215 = .ok (.isub, 1) := by decide +kernel
theorem d_MO_two_216 : decode b_MO_two 216 = .ok (.ireturn, 1) := by decide +kernel
theorem d_MO_two_217 : decode b_MO_two 217 = .ok (.iconst 0, 1) := by decide +kernel
theorem d_MO_two_218 : decode b_MO_two 218 = .ok (.istore 14, 2) := by decide +kernel
theorem d_MO_two_220 : decode b_MO_two 220 = .ok (.iload 14, 2) := by decide +kernel
theorem d_MO_two_222 : decode b_MO_two 222 = .ok (.bipush 48, 2) := by decide +kernel
theorem d_MO_two_224 : decode b_MO_two 224 = .ok (.if_icmp .ge 51, 3) := by decide +kernel
theorem d_MO_two_227 : decode b_MO_two 227 = .ok (.aload_n 0, 1) := by decide +kernel
theorem d_MO_two_228 : decode b_MO_two 228 = .ok (.getfield 39, 3) := by decide +kernel
theorem d_MO_two_231 : decode b_MO_two 231 = .ok (.iload 6, 2) := by decide +kernel
theorem d_MO_two_233 : decode b_MO_two 233 = .ok (.bipush 48, 2) := by decide +kernel
theorem d_MO_two_235 : decode b_MO_two 235 = .ok (.imul, 1) := by decide +kernel
theorem d_MO_two_236 : decode b_MO_two 236 = .ok (.iload 14, 2) := by decide +kernel
theorem d_MO_two_238 : decode b_MO_two 238 = .ok (.iadd, 1) := by decide +kernel
theorem d_MO_two_239 : decode b_MO_two 239 = .ok (.aload_n 0, 1) := by decide +kernel
theorem d_MO_two_240 : decode b_MO_two 240 = .ok (.getfield 60, 3) := by decide +kernel
theorem d_MO_two_243 : decode b_MO_two 243 = .ok (.iload 14, 2) := by decide +kernel
theorem d_MO_two_245 : decode b_MO_two 245 = .ok (.iaload, 1) := by decide +kernel
theorem d_MO_two_246 : decode b_MO_two 246 = .ok (.iastore, 1) := by decide +kernel
theorem d_MO_two_247 : decode b_MO_two 247 = .ok (.aload_n 0, 1) := by decide +kernel
theorem d_MO_two_248 : decode b_MO_two 248 = .ok (.getfield 39, 3) := by decide +kernel
theorem d_MO_two_251 : decode b_MO_two 251 = .ok (.iload 6, 2) := by decide +kernel
theorem d_MO_two_253 : decode b_MO_two 253 = .ok (.iconst 1, 1) := by decide +kernel
theorem d_MO_two_254 : decode b_MO_two 254 = .ok (.iadd, 1) := by decide +kernel
theorem d_MO_two_255 : decode b_MO_two 255 = .ok (.bipush 48, 2) := by decide +kernel
theorem d_MO_two_257 : decode b_MO_two 257 = .ok (.imul, 1) := by decide +kernel
theorem d_MO_two_258 : decode b_MO_two 258 = .ok (.iload 14, 2) := by decide +kernel
theorem d_MO_two_260 : decode b_MO_two 260 = .ok (.iadd, 1) := by decide +kernel
theorem d_MO_two_261 : decode b_MO_two 261 = .ok (.aload_n 0, 1) := by decide +kernel
theorem d_MO_two_262 : decode b_MO_two 262 = .ok (.getfield 63, 3) := by decide +kernel
theorem d_MO_two_265 : decode b_MO_two 265 = .ok (.iload 14, 2) := by decide +kernel
theorem d_MO_two_267 : decode b_MO_two 267 = .ok (.iaload, 1) := by decide +kernel
theorem d_MO_two_268 : decode b_MO_two 268 = .ok (.iastore, 1) := by decide +kernel
theorem d_MO_two_269 : decode b_MO_two 269 = .ok (.iinc 14 1, 3) := by decide +kernel
theorem d_MO_two_272 : decode b_MO_two 272 = .ok (.goto (-52), 3) := by decide +kernel
theorem d_MO_two_275 : decode b_MO_two 275 = .ok (.aload_n 0, 1) := by decide +kernel
theorem d_MO_two_276 : decode b_MO_two 276 = .ok (.getfield 42, 3) := by decide +kernel
theorem d_MO_two_279 : decode b_MO_two 279 = .ok (.iload 6, 2) := by decide +kernel
theorem d_MO_two_281 : decode b_MO_two 281 = .ok (.iload 7, 2) := by decide +kernel
theorem d_MO_two_283 : decode b_MO_two 283 = .ok (.iastore, 1) := by decide +kernel
theorem d_MO_two_284 : decode b_MO_two 284 = .ok (.aload_n 0, 1) := by decide +kernel
theorem d_MO_two_285 : decode b_MO_two 285 = .ok (.getfield 42, 3) := by decide +kernel
theorem d_MO_two_288 : decode b_MO_two 288 = .ok (.iload 6, 2) := by decide +kernel
theorem d_MO_two_290 : decode b_MO_two 290 = .ok (.iconst 1, 1) := by decide +kernel
theorem d_MO_two_291 : decode b_MO_two 291 = .ok (.iadd, 1) := by decide +kernel
theorem d_MO_two_292 : decode b_MO_two 292 = .ok (.iload 8, 2) := by decide +kernel
theorem d_MO_two_294 : decode b_MO_two 294 = .ok (.iastore, 1) := by decide +kernel
theorem d_MO_two_295 : decode b_MO_two 295 = .ok (.aload_n 0, 1) := by decide +kernel
theorem d_MO_two_296 : decode b_MO_two 296 = .ok (.getfield 45, 3) := by decide +kernel
theorem d_MO_two_299 : decode b_MO_two 299 = .ok (.iload 6, 2) := by decide +kernel
theorem d_MO_two_301 : decode b_MO_two 301 = .ok (.iload 9, 2) := by decide +kernel
theorem d_MO_two_303 : decode b_MO_two 303 = .ok (.iastore, 1) := by decide +kernel
theorem d_MO_two_304 : decode b_MO_two 304 = .ok (.aload_n 0, 1) := by decide +kernel
theorem d_MO_two_305 : decode b_MO_two 305 = .ok (.getfield 45, 3) := by decide +kernel
theorem d_MO_two_308 : decode b_MO_two 308 = .ok (.iload 6, 2) := by decide +kernel
theorem d_MO_two_310 : decode b_MO_two 310 = .ok (.iconst 1, 1) := by decide +kernel
theorem d_MO_two_311 : decode b_MO_two 311 = .ok (.iadd, 1) := by decide +kernel
theorem d_MO_two_312 : decode b_MO_two 312 = .ok (.iload 10, 2) := by decide +kernel
theorem d_MO_two_314 : decode b_MO_two 314 = .ok (.iastore, 1) := by decide +kernel
theorem d_MO_two_315 : decode b_MO_two 315 = .ok (.aload_n 0, 1) := by decide +kernel
theorem d_MO_two_316 : decode b_MO_two 316 = .ok (.getfield 48, 3) := by decide +kernel
theorem d_MO_two_319 : decode b_MO_two 319 = .ok (.iload 6, 2) := by decide +kernel
theorem d_MO_two_321 : decode b_MO_two 321 = .ok (.iload 11, 2) := by decide +kernel
theorem d_MO_two_323 : decode b_MO_two 323 = .ok (.iastore, 1) := by decide +kernel
theorem d_MO_two_324 : decode b_MO_two 324 = .ok (.aload_n 0, 1) := by decide +kernel
theorem d_MO_two_325 : decode b_MO_two 325 = .ok (.getfield 48, 3) := by decide +kernel
theorem d_MO_two_328 : decode b_MO_two 328 = .ok (.iload 6, 2) := by decide +kernel
theorem d_MO_two_330 : decode b_MO_two 330 = .ok (.iconst 1, 1) := by decide +kernel
theorem d_MO_two_331 : decode b_MO_two 331 = .ok (.iadd, 1) := by decide +kernel
theorem d_MO_two_332 : decode b_MO_two 332 = .ok (.iload 12, 2) := by decide +kernel
theorem d_MO_two_334 : decode b_MO_two 334 = .ok (.iastore, 1) := by decide +kernel
theorem d_MO_two_335 : decode b_MO_two 335 = .ok (.iload 13, 2) := by decide +kernel
theorem d_MO_two_337 : decode b_MO_two 337 = .ok (.ifCond .eq 8, 3) := by decide +kernel
theorem d_MO_two_340 : decode b_MO_two 340 = .ok (.bipush (-5), 2) := by decide +kernel
theorem d_MO_two_342 : decode b_MO_two 342 = .ok (.goto 4, 3) := by decide +kernel
theorem d_MO_two_345 : decode b_MO_two 345 = .ok (.iconst (-1), 1) := by decide +kernel
theorem d_MO_two_346 : decode b_MO_two 346 = .ok (.ireturn, 1) := by decide +kernel
theorem d_MO_find_0 : decode b_MO_find 0 = .ok (.aload_n 0, 1) := by decide +kernel
theorem d_MO_find_1 : decode b_MO_find 1 = .ok (.invokevirtual 113, 3) := by decide +kernel
theorem d_MO_find_4 : decode b_MO_find 4 = .ok (.aload_n 0, 1) := by decide +kernel
theorem d_MO_find_5 : decode b_MO_find 5 = .ok (.iload_n 1, 1) := by decide +kernel
theorem d_MO_find_6 : decode b_MO_find 6 = .ok (.iload_n 2, 1) := by decide +kernel
theorem d_MO_find_7 : decode b_MO_find 7 = .ok (.iload 5, 2) := by decide +kernel
theorem d_MO_find_9 : decode b_MO_find 9 = .ok (.invokevirtual 122, 3) := by decide +kernel
theorem d_MO_find_12 : decode b_MO_find 12 = .ok (.ifCond .ne 5, 3) := by decide +kernel
theorem d_MO_find_15 : decode b_MO_find 15 = .ok (.iconst 0, 1) := by decide +kernel
theorem d_MO_find_16 : decode b_MO_find 16 = .ok (.ireturn, 1) := by decide +kernel
theorem d_MO_find_17 : decode b_MO_find 17 = .ok (.iconst 0, 1) := by decide +kernel
theorem d_MO_find_18 : decode b_MO_find 18 = .ok (.istore 6, 2) := by decide +kernel
theorem d_MO_find_20 : decode b_MO_find 20 = .ok (.iload 6, 2) := by decide +kernel
theorem d_MO_find_22 : decode b_MO_find 22 = .ok (.aload_n 0, 1) := by decide +kernel
theorem d_MO_find_23 : decode b_MO_find 23 = .ok (.getfield 42, 3) := by decide +kernel
theorem d_MO_find_26 : decode b_MO_find 26 = .ok (.iload 5, 2) := by decide +kernel
theorem d_MO_find_28 : decode b_MO_find 28 = .ok (.iaload, 1) := by decide +kernel
theorem d_MO_find_29 : decode b_MO_find 29 = .ok (.if_icmp .ge 63, 3) := by decide +kernel
theorem d_MO_find_32 : decode b_MO_find 32 = .ok (.aload_n 0, 1) := by decide +kernel
theorem d_MO_find_33 : decode b_MO_find 33 = .ok (.iload 5, 2) := by decide +kernel
theorem d_MO_find_35 : decode b_MO_find 35 = .ok (.iload 6, 2) := by decide +kernel
theorem d_MO_find_37 : decode b_MO_find 37 = .ok (.invokevirtual 128, 3) := by decide +kernel
theorem d_MO_find_40 : decode b_MO_find 40 = .ok (.istore 7, 2) := by decide +kernel
theorem d_MO_find_42 : decode b_MO_find 42 = .ok (.aload_n 0, 1) := by decide +kernel
theorem d_MO_find_43 : decode b_MO_find 43 = .ok (.getfield 57, 3) := by decide +kernel
theorem d_MO_find_46 : decode b_MO_find 46 = .ok (.aload_n 0, 1) := by decide +kernel
theorem d_MO_find_47 : decode b_MO_find 47 = .ok (.getfield 39, 3) := by decide +kernel
theorem d_MO_find_50 : decode b_MO_find 50 = .ok (.iload 5, 2) := by decide +kernel
theorem d_MO_find_52 : decode b_MO_find 52 = .ok (.bipush 48, 2) := by decide +kernel
theorem d_MO_find_54 : decode b_MO_find 54 = .ok (.imul, 1) := by decide +kernel
theorem d_MO_find_55 : decode b_MO_find 55 = .ok (.iload 6, 2) := by decide +kernel
theorem d_MO_find_57 : decode b_MO_find 57 = .ok (.iadd, 1) := by decide +kernel
theorem d_MO_find_58 : decode b_MO_find 58 = .ok (.iaload, 1) := by decide +kernel
theorem d_MO_find_59 : decode b_MO_find 59 = .ok (.iconst 1, 1) := by decide +kernel
theorem d_MO_find_60 : decode b_MO_find 60 = .ok (.bastore, 1) := by decide +kernel
theorem d_MO_find_61 : decode b_MO_find 61 = .ok (.aload_n 0, 1) := by decide +kernel
theorem d_MO_find_62 : decode b_MO_find 62 = .ok (.getfield 54, 3) := by decide +kernel
theorem d_MO_find_65 : decode b_MO_find 65 = .ok (.iload 7, 2) := by decide +kernel
theorem d_MO_find_67 : decode b_MO_find 67 = .ok (.dup2, 1) := by decide +kernel
theorem d_MO_find_68 : decode b_MO_find 68 = .ok (.baload, 1) := by decide +kernel
theorem d_MO_find_69 : decode b_MO_find 69 = .ok (.aload_n 0, 1) := by decide +kernel
theorem d_MO_find_70 : decode b_MO_find 70 = .ok (.getfield 9, 3) := by decide +kernel
theorem d_MO_find_73 : decode b_MO_find 73 = .ok (.iload 7, 2) := by decide +kernel
theorem d_MO_find_75 : decode b_MO_find 75 = .ok (.iaload, 1) := by decide +kernel
theorem d_MO_find_76 : decode b_MO_find 76 = .ok (.ifCond .eq 7, 3) := by decide +kernel
theorem d_MO_find_79 : decode b_MO_find 79 = .ok (.iconst 1, 1) := by decide +kernel
theorem d_MO_find_80 : decode b_MO_find 80 = .ok (.goto 4, 3) := by decide +kernel
theorem d_MO_find_83 : decode b_MO_find 83 = .ok (.iconst 0, 1) := by decide +kernel
theorem d_MO_find_84 : decode b_MO_find 84 = .ok (.ior, 1) := by decide +kernel
theorem d_MO_find_85 : decode b_MO_find 85 = .ok (.bastore, 1) := by decide +kernel
theorem d_MO_find_86 : decode b_MO_find 86 = .ok (.iinc 6 1, 3) := by decide +kernel
theorem d_MO_find_89 : decode b_MO_find 89 = .ok (.goto (-69), 3) := by decide +kernel
theorem d_MO_find_92 : decode b_MO_find 92 = .ok (.aload_n 0, 1) := by decide +kernel
theorem d_MO_find_93 : decode b_MO_find 93 = .ok (.iload_n 3, 1) := by decide +kernel
theorem d_MO_find_94 : decode b_MO_find 94 = .ok (.iload 4, 2) := by decide +kernel
theorem d_MO_find_96 : decode b_MO_find 96 = .ok (.iload 5, 2) := by decide +kernel
theorem d_MO_find_98 : decode b_MO_find 98 = .ok (.iconst 1, 1) := by decide +kernel
theorem d_MO_find_99 : decode b_MO_find 99 = .ok (.iadd, 1) := by decide +kernel
theorem d_MO_find_100 : decode b_MO_find 100 = .ok (.invokevirtual 122, 3) := by decide +kernel
theorem d_MO_find_103 : decode b_MO_find 103 = .ok (.ireturn, 1) := by decide +kernel
theorem d_MO_told_0 : decode b_MO_told 0 = .ok (.iconst 0, 1) := by decide +kernel
theorem d_MO_told_1 : decode b_MO_told 1 = .ok (.istore_n 2, 1) := by decide +kernel
theorem d_MO_told_2 : decode b_MO_told 2 = .ok (.iload_n 1, 1) := by decide +kernel
theorem d_MO_told_3 : decode b_MO_told 3 = .ok (.tableswitch 256 0 6 #[41, 46, 51, 56, 91, 126, 170], 41) := by decide +kernel
theorem d_MO_told_44 : decode b_MO_told 44 = .ok (.aload_n 0, 1) := by decide +kernel
theorem d_MO_told_45 : decode b_MO_told 45 = .ok (.getfield 66, 3) := by decide +kernel
theorem d_MO_told_48 : decode b_MO_told 48 = .ok (.ireturn, 1) := by decide +kernel
theorem d_MO_told_49 : decode b_MO_told 49 = .ok (.aload_n 0, 1) := by decide +kernel
theorem d_MO_told_50 : decode b_MO_told 50 = .ok (.getfield 80, 3) := by decide +kernel
theorem d_MO_told_53 : decode b_MO_told 53 = .ok (.ireturn, 1) := by decide +kernel
theorem d_MO_told_54 : decode b_MO_told 54 = .ok (.aload_n 0, 1) := by decide +kernel
theorem d_MO_told_55 : decode b_MO_told 55 = .ok (.getfield 116, 3) := by decide +kernel
theorem d_MO_told_58 : decode b_MO_told 58 = .ok (.ireturn, 1) := by decide +kernel
theorem d_MO_told_59 : decode b_MO_told 59 = .ok (.iconst 0, 1) := by decide +kernel
theorem d_MO_told_60 : decode b_MO_told 60 = .ok (.istore_n 3, 1) := by decide +kernel
theorem d_MO_told_61 : decode b_MO_told 61 = .ok (.iload_n 3, 1) := by decide +kernel
theorem d_MO_told_62 : decode b_MO_told 62 = .ok (.aload_n 0, 1) := by decide +kernel
theorem d_MO_told_63 : decode b_MO_told 63 = .ok (.getfield 66, 3) := by decide +kernel
theorem d_MO_told_66 : decode b_MO_told 66 = .ok (.if_icmp .ge 26, 3) := by decide +kernel
theorem d_MO_told_69 : decode b_MO_told 69 = .ok (.iload_n 2, 1) := by decide +kernel
theorem d_MO_told_70 : decode b_MO_told 70 = .ok (.aload_n 0, 1) := by decide +kernel
theorem d_MO_told_71 : decode b_MO_told 71 = .ok (.getfield 17, 3) := by decide +kernel
theorem d_MO_told_74 : decode b_MO_told 74 = .ok (.iload_n 3, 1) := by decide +kernel
theorem d_MO_told_75 : decode b_MO_told 75 = .ok (.baload, 1) := by decide +kernel
theorem d_MO_told_76 : decode b_MO_told 76 = .ok (.ifCond .eq 7, 3) := by decide +kernel
theorem d_MO_told_79 : decode b_MO_told 79 = .ok (.iconst 1, 1) := by decide +kernel
theorem d_MO_told_80 : decode b_MO_told 80 = .ok (.goto 4, 3) := by decide +kernel
theorem d_MO_told_83 : decode b_MO_told 83 = .ok (.iconst 0, 1) := by decide +kernel
theorem d_MO_told_84 : decode b_MO_told 84 = .ok (.iadd, 1) := by decide +kernel
theorem d_MO_told_85 : decode b_MO_told 85 = .ok (.istore_n 2, 1) := by decide +kernel
theorem d_MO_told_86 : decode b_MO_told 86 = .ok (.iinc 3 1, 3) := by decide +kernel
theorem d_MO_told_89 : decode b_MO_told 89 = .ok (.goto (-28), 3) := by decide +kernel
theorem d_MO_told_92 : decode b_MO_told 92 = .ok (.iload_n 2, 1) := by decide +kernel
theorem d_MO_told_93 : decode b_MO_told 93 = .ok (.ireturn, 1) := by decide +kernel
theorem d_MO_told_94 : decode b_MO_told 94 = .ok (.iconst 0, 1) := by decide +kernel
theorem d_MO_told_95 : decode b_MO_told 95 = .ok (.istore_n 3, 1) := by decide +kernel
theorem d_MO_told_96 : decode b_MO_told 96 = .ok (.iload_n 3, 1) := by decide +kernel
theorem d_MO_told_97 : decode b_MO_told 97 = .ok (.aload_n 0, 1) := by decide +kernel
theorem d_MO_told_98 : decode b_MO_told 98 = .ok (.getfield 80, 3) := by decide +kernel
theorem d_MO_told_101 : decode b_MO_told 101 = .ok (.if_icmp .ge 26, 3) := by decide +kernel
theorem d_MO_told_104 : decode b_MO_told 104 = .ok (.iload_n 2, 1) := by decide +kernel
theorem d_MO_told_105 : decode b_MO_told 105 = .ok (.aload_n 0, 1) := by decide +kernel
theorem d_MO_told_106 : decode b_MO_told 106 = .ok (.getfield 36, 3) := by decide +kernel
theorem d_MO_told_109 : decode b_MO_told 109 = .ok (.iload_n 3, 1) := by decide +kernel
theorem d_MO_told_110 : decode b_MO_told 110 = .ok (.baload, 1) := by decide +kernel
theorem d_MO_told_111 : decode b_MO_told 111 = .ok (.ifCond .eq 7, 3) := by decide +kernel
theorem d_MO_told_114 : decode b_MO_told 114 = .ok (.iconst 1, 1) := by decide +kernel
theorem d_MO_told_115 : decode b_MO_told 115 = .ok (.goto 4, 3) := by decide +kernel
theorem d_MO_told_118 : decode b_MO_told 118 = .ok (.iconst 0, 1) := by decide +kernel
theorem d_MO_told_119 : decode b_MO_told 119 = .ok (.iadd, 1) := by decide +kernel
theorem d_MO_told_120 : decode b_MO_told 120 = .ok (.istore_n 2, 1) := by decide +kernel
theorem d_MO_told_121 : decode b_MO_told 121 = .ok (.iinc 3 1, 3) := by decide +kernel
theorem d_MO_told_124 : decode b_MO_told 124 = .ok (.goto (-28), 3) := by decide +kernel
theorem d_MO_told_127 : decode b_MO_told 127 = .ok (.iload_n 2, 1) := by decide +kernel
theorem d_MO_told_128 : decode b_MO_told 128 = .ok (.ireturn, 1) := by decide +kernel
theorem d_MO_told_129 : decode b_MO_told 129 = .ok (.iconst 0, 1) := by decide +kernel
theorem d_MO_told_130 : decode b_MO_told 130 = .ok (.istore_n 3, 1) := by decide +kernel
theorem d_MO_told_131 : decode b_MO_told 131 = .ok (.iload_n 3, 1) := by decide +kernel
theorem d_MO_told_132 : decode b_MO_told 132 = .ok (.aload_n 0, 1) := by decide +kernel
theorem d_MO_told_133 : decode b_MO_told 133 = .ok (.getfield 66, 3) := by decide +kernel
theorem d_MO_told_136 : decode b_MO_told 136 = .ok (.if_icmp .ge 35, 3) := by decide +kernel
theorem d_MO_told_139 : decode b_MO_told 139 = .ok (.iload_n 2, 1) := by decide +kernel
theorem d_MO_told_140 : decode b_MO_told 140 = .ok (.aload_n 0, 1) := by decide +kernel
theorem d_MO_told_141 : decode b_MO_told 141 = .ok (.getfield 9, 3) := by decide +kernel
theorem d_MO_told_144 : decode b_MO_told 144 = .ok (.iload_n 3, 1) := by decide +kernel
theorem d_MO_told_145 : decode b_MO_told 145 = .ok (.iaload, 1) := by decide +kernel
theorem d_MO_told_146 : decode b_MO_told 146 = .ok (.ifCond .ne 16, 3) := by decide +kernel
theorem d_MO_told_149 : decode b_MO_told 149 = .ok (.aload_n 0, 1) := by decide +kernel
theorem d_MO_told_150 : decode b_MO_told 150 = .ok (.getfield 13, 3) := by decide +kernel
theorem d_MO_told_153 : decode b_MO_told 153 = .ok (.iload_n 3, 1) := by decide +kernel
theorem d_MO_told_154 : decode b_MO_told 154 = .ok (.baload, 1) := by decide +kernel
theorem d_MO_told_155 : decode b_MO_told 155 = .ok (.ifCond .eq 7, 3) := by decide +kernel
theorem d_MO_told_158 : decode b_MO_told 158 = .ok (.iconst 1, 1) := by decide +kernel
theorem d_MO_told_159 : decode b_MO_told 159 = .ok (.goto 4, 3) := by decide +kernel
theorem d_MO_told_162 : decode b_MO_told 162 = .ok (.iconst 0, 1) := by decide +kernel
theorem d_MO_told_163 : decode b_MO_told 163 = .ok (.iadd, 1) := by decide +kernel
theorem d_MO_told_164 : decode b_MO_told 164 = .ok (.istore_n 2, 1) := by decide +kernel
theorem d_MO_told_165 : decode b_MO_told 165 = .ok (.iinc 3 1, 3) := by decide +kernel
theorem d_MO_told_168 : decode b_MO_told 168 = .ok (.goto (-37), 3) := by decide +kernel
theorem d_MO_told_171 : decode b_MO_told 171 = .ok (.iload_n 2, 1) := by decide +kernel
theorem d_MO_told_172 : decode b_MO_told 172 = .ok (.ireturn, 1) := by decide +kernel
theorem d_MO_told_173 : decode b_MO_told 173 = .ok (.iconst 0, 1) := by decide +kernel
theorem d_MO_told_174 : decode b_MO_told 174 = .ok (.istore_n 3, 1) := by decide +kernel
theorem d_MO_told_175 : decode b_MO_told 175 = .ok (.iload_n 3, 1) := by decide +kernel
theorem d_MO_told_176 : decode b_MO_told 176 = .ok (.aload_n 0, 1) := by decide +kernel
theorem d_MO_told_177 : decode b_MO_told 177 = .ok (.getfield 66, 3) := by decide +kernel
theorem d_MO_told_180 : decode b_MO_told 180 = .ok (.if_icmp .ge 77, 3) := by decide +kernel
theorem d_MO_told_183 : decode b_MO_told 183 = .ok (.iconst 1, 1) := by decide +kernel
theorem d_MO_told_184 : decode b_MO_told 184 = .ok (.istore 4, 2) := by decide +kernel
theorem d_MO_told_186 : decode b_MO_told 186 = .ok (.iconst 0, 1) := by decide +kernel
theorem d_MO_told_187 : decode b_MO_told 187 = .ok (.istore 5, 2) := by decide +kernel
theorem d_MO_told_189 : decode b_MO_told 189 = .ok (.iload 5, 2) := by decide +kernel
theorem d_MO_told_191 : decode b_MO_told 191 = .ok (.aload_n 0, 1) := by decide +kernel
theorem d_MO_told_192 : decode b_MO_told 192 = .ok (.getfield 80, 3) := by decide +kernel
theorem d_MO_told_195 : decode b_MO_told 195 = .ok (.if_icmp .ge 43, 3) := by decide +kernel
theorem d_MO_told_198 : decode b_MO_told 198 = .ok (.iload 4, 2) := by decide +kernel
theorem d_MO_told_200 : decode b_MO_told 200 = .ok (.ifCond .eq 29, 3) := by decide +kernel
theorem d_MO_told_203 : decode b_MO_told 203 = .ok (.aload_n 0, 1) := by decide +kernel
theorem d_MO_told_204 : decode b_MO_told 204 = .ok (.getfield 26, 3) := by decide +kernel
theorem d_MO_told_207 : decode b_MO_told 207 = .ok (.iload 5, 2) := by decide +kernel
theorem d_MO_told_209 : decode b_MO_told 209 = .ok (.iaload, 1) := by decide +kernel
theorem d_MO_told_210 : decode b_MO_told 210 = .ok (.iload_n 3, 1) := by decide +kernel
theorem d_MO_told_211 : decode b_MO_told 211 = .ok (.if_icmp .eq 18, 3) := by decide +kernel
theorem d_MO_told_214 : decode b_MO_told 214 = .ok (.aload_n 0, 1) := by decide +kernel
theorem d_MO_told_215 : decode b_MO_told 215 = .ok (.getfield 29, 3) := by decide +kernel
theorem d_MO_told_218 : decode b_MO_told 218 = .ok (.iload 5, 2) := by decide +kernel
theorem d_MO_told_220 : decode b_MO_told 220 = .ok (.iaload, 1) := by decide +kernel
theorem d_MO_told_221 : decode b_MO_told 221 = .ok (.iload_n 3, 1) := by decide +kernel
theorem d_MO_told_222 : decode b_MO_told 222 = .ok (.if_icmp .eq 7, 3) := by decide +kernel
theorem d_MO_told_225 : decode b_MO_told 225 = .ok (.iconst 1, 1) := by decide +kernel
theorem d_MO_told_226 : decode b_MO_told 226 = .ok (.goto 4, 3) := by decide +kernel
theorem d_MO_told_229 : decode b_MO_told 229 = .ok (.iconst 0, 1) := by decide +kernel
theorem d_MO_told_230 : decode b_MO_told 230 = .ok (.istore 4, 2) := by decide +kernel
theorem d_MO_told_232 : decode b_MO_told 232 = .ok (.iinc 5 1, 3) := by decide +kernel
theorem d_MO_told_235 : decode b_MO_told 235 = .ok (.goto (-46), 3) := by decide +kernel
theorem d_MO_told_238 : decode b_MO_told 238 = .ok (.iload_n 2, 1) := by decide +kernel
theorem d_MO_told_239 : decode b_MO_told 239 = .ok (.iload 4, 2) := by decide +kernel
theorem d_MO_told_241 : decode b_MO_told 241 = .ok (.ifCond .eq 7, 3) := by decide +kernel
theorem d_MO_told_244 : decode b_MO_told 244 = .ok (.iconst 1, 1) := by decide +kernel
theorem d_MO_told_245 : decode b_MO_told 245 = .ok (.goto 4, 3) := by decide +kernel
theorem d_MO_told_248 : decode b_MO_told 248 = .ok (.iconst 0, 1) := by decide +kernel
theorem d_MO_told_249 : decode b_MO_told 249 = .ok (.iadd, 1) := by decide +kernel
theorem d_MO_told_250 : decode b_MO_told 250 = .ok (.istore_n 2, 1) := by decide +kernel
theorem d_MO_told_251 : decode b_MO_told 251 = .ok (.iinc 3 1, 3) := by decide +kernel
theorem d_MO_told_254 : decode b_MO_told 254 = .ok (.goto (-79), 3) := by decide +kernel
theorem d_MO_told_257 : decode b_MO_told 257 = .ok (.iload_n 2, 1) := by decide +kernel
theorem d_MO_told_258 : decode b_MO_told 258 = .ok (.ireturn, 1) := by decide +kernel
theorem d_MO_told_259 : decode b_MO_told 259 = .ok (.iconst (-1), 1) := by decide +kernel
theorem d_MO_told_260 : decode b_MO_told 260 = .ok (.ireturn, 1) := by decide +kernel
theorem d_MO_blow_0 : decode b_MO_blow 0 = .ok (.aload_n 0, 1) := by decide +kernel
theorem d_MO_blow_1 : decode b_MO_blow 1 = .ok (.iload_n 1, 1) := by decide +kernel
theorem d_MO_blow_2 : decode b_MO_blow 2 = .ok (.invokevirtual 125, 3) := by decide +kernel
theorem d_MO_blow_5 : decode b_MO_blow 5 = .ok (.ifCond .ne 6, 3) := by decide +kernel
theorem d_MO_blow_8 : decode b_MO_blow 8 = .ok (.bipush (-2), 2) := by decide +kernel
theorem d_MO_blow_10 : decode b_MO_blow 10 = .ok (.ireturn, 1) := by decide +kernel
theorem d_MO_blow_11 : decode b_MO_blow 11 = .ok (.aload_n 0, 1) := by decide +kernel
theorem d_MO_blow_12 : decode b_MO_blow 12 = .ok (.getfield 42, 3) := by decide +kernel
theorem d_MO_blow_15 : decode b_MO_blow 15 = .ok (.iload_n 1, 1) := by decide +kernel
theorem d_MO_blow_16 : decode b_MO_blow 16 = .ok (.iaload, 1) := by decide +kernel
theorem d_MO_blow_17 : decode b_MO_blow 17 = .ok (.iconst 1, 1) := by decide +kernel
theorem d_MO_blow_18 : decode b_MO_blow 18 = .ok (.isub, 1) := by decide +kernel
theorem d_MO_blow_19 : decode b_MO_blow 19 = .ok (.istore_n 3, 1) := by decide +kernel
theorem d_MO_blow_20 : decode b_MO_blow 20 = .ok (.iconst 0, 1) := by decide +kernel
theorem d_MO_blow_21 : decode b_MO_blow 21 = .ok (.istore 4, 2) := by decide +kernel
theorem d_MO_blow_23 : decode b_MO_blow 23 = .ok (.iload_n 3, 1) := by decide +kernel
theorem d_MO_blow_24 : decode b_MO_blow 24 = .ok (.ifCond .lt 56, 3) := by decide +kernel
theorem d_MO_blow_27 : decode b_MO_blow 27 = .ok (.iload 4, 2) := by decide +kernel
theorem d_MO_blow_29 : decode b_MO_blow 29 = .ok (.iload_n 2, 1) := by decide +kernel
theorem d_MO_blow_30 : decode b_MO_blow 30 = .ok (.if_icmp .ne 15, 3) := by decide +kernel
theorem d_MO_blow_33 : decode b_MO_blow 33 = .ok (.aload_n 0, 1) := by decide +kernel
theorem d_MO_blow_34 : decode b_MO_blow 34 = .ok (.getfield 39, 3) := by decide +kernel
theorem d_MO_blow_37 : decode b_MO_blow 37 = .ok (.iload_n 1, 1) := by decide +kernel
theorem d_MO_blow_38 : decode b_MO_blow 38 = .ok (.bipush 48, 2) := by decide +kernel
theorem d_MO_blow_40 : decode b_MO_blow 40 = .ok (.imul, 1) := by decide +kernel
theorem d_MO_blow_41 : decode b_MO_blow 41 = .ok (.iload_n 3, 1) := by decide +kernel
theorem d_MO_blow_42 : decode b_MO_blow 42 = .ok (.iadd, 1) := by decide +kernel
theorem d_MO_blow_43 : decode b_MO_blow 43 = .ok (.iaload, 1) := by decide +kernel
theorem d_MO_blow_44 : decode b_MO_blow 44 = .ok (.ireturn, 1) := by decide +kernel
theorem d_MO_blow_45 : decode b_MO_blow 45 = .ok (.iinc 4 1, 3) := by decide +kernel
theorem d_MO_blow_48 : decode b_MO_blow 48 = .ok (.iload_n 3, 1) := by decide +kernel
theorem d_MO_blow_49 : decode b_MO_blow 49 = .ok (.ifCond .le 26, 3) := by decide +kernel
theorem d_MO_blow_52 : decode b_MO_blow 52 = .ok (.aload_n 0, 1) := by decide +kernel
theorem d_MO_blow_53 : decode b_MO_blow 53 = .ok (.getfield 9, 3) := by decide +kernel
theorem d_MO_blow_56 : decode b_MO_blow 56 = .ok (.aload_n 0, 1) := by decide +kernel
theorem d_MO_blow_57 : decode b_MO_blow 57 = .ok (.iload_n 1, 1) := by decide +kernel
theorem d_MO_blow_58 : decode b_MO_blow 58 = .ok (.iload_n 3, 1) := by decide +kernel
theorem d_MO_blow_59 : decode b_MO_blow 59 = .ok (.iconst 1, 1) := by decide +kernel
theorem d_MO_blow_60 : decode b_MO_blow 60 = .ok (.isub, 1) := by decide +kernel
theorem d_MO_blow_61 : decode b_MO_blow 61 = .ok (.invokevirtual 128, 3) := by decide +kernel
theorem d_MO_blow_64 : decode b_MO_blow 64 = .ok (.iaload, 1) := by decide +kernel
theorem d_MO_blow_65 : decode b_MO_blow 65 = .ok (.iconst 1, 1) := by decide +kernel
theorem d_MO_blow_66 : decode b_MO_blow 66 = .ok (.if_icmp .eq 9, 3) := by decide +kernel
theorem d_MO_blow_69 : decode b_MO_blow 69 = .ok (.iload_n 3, 1) := by decide +kernel
theorem d_MO_blow_70 : decode b_MO_blow 70 = .ok (.iconst 1, 1) := by decide +kernel
theorem d_MO_blow_71 : decode b_MO_blow 71 = .ok (.isub, 1) := by decide +kernel
theorem d_MO_blow_72 : decode b_MO_blow 72 = .ok (.goto 4, 3) := by decide +kernel
theorem d_MO_blow_75 : decode b_MO_blow 75 = .ok (.iconst (-1), 1) := by decide +kernel
theorem d_MO_blow_76 : decode b_MO_blow 76 = .ok (.istore_n 3, 1) := by decide +kernel
theorem d_MO_blow_77 : decode b_MO_blow 77 = .ok (.goto (-54), 3) := by decide +kernel
theorem d_MO_blow_80 : decode b_MO_blow 80 = .ok (.iconst (-1), 1) := by decide +kernel
theorem d_MO_blow_81 : decode b_MO_blow 81 = .ok (.ireturn, 1) := by decide +kernel
end
section
/-! THE CLASS'S WORLD: 23 fixed cells at a 0 .. a 22, then the rest, then the ways that were made -/
section TI
variable {p : Program} {l : Launch} {e : Env} {R : Room} {s : State} {m : MethodId} {args : Array Value} {below : List Frame} {meth : Method} {c : Code} {H : Heap} {locs : List Loc} {cells slots : Nat} {Q : State → Prop} {pc : Nat} {ls : Array Slot} {rest : List Value}
theorem ti {x v : Int32} (h : x = v) (k : W p l e R s m args below meth c H locs cells slots Q (F0 m pc ls (.int v :: rest))) : W p l e R s m args below meth c H locs cells slots Q (F0 m pc ls (.int x :: rest)) := by
  subst h
  exact k
theorem tl {x v : Int64} (h : x = v) (k : W p l e R s m args below meth c H locs cells slots Q (F0 m pc ls (.long v :: rest))) : W p l e R s m args below meth c H locs cells slots Q (F0 m pc ls (.long x :: rest)) := by
  subst h
  exact k
end TI
theorem inc1 (k : Nat) : nI k + Int32.ofInt 1 = nI (k + 1) := nI_1 k
theorem incn (k n : Nat) : nI k + Int32.ofInt (n : Int) = nI (k + n) := by
  rw [← nI_add k n]
  rfl
theorem dec1 {k : Nat} (h : 1 ≤ k) : nI k + Int32.ofInt (-1) = nI (k - 1) := by
  have e := pk_m1 (k - 1)
  rw [Nat.sub_add_cancel h] at e
  exact e
/-- a way as the class keeps it: the addresses of its rows and of itself, its ends, its litres, its pipes, its things -/
abbrev Wy : Type := Nat × Nat × Nat × Nat × Nat × Nat × List Nat × List Nat
def wy_c (t : Nat → ClassId) (x : Wy) : va_W := [(x.1, .inl (t 0, x.2.2.2.2.2.2.1.length, .inl (fun j => nI (x.2.2.2.2.2.2.1.getD j 0)))), (x.2.1, .inl (t 0, x.2.2.2.2.2.2.2.length, .inl (fun j => nI (x.2.2.2.2.2.2.2.getD j 0)))), (x.2.2.1, .inr (4, [.int (nI x.2.2.2.1), .int (nI x.2.2.2.2.1), .long (lN x.2.2.2.2.2.1), .ref x.1, .ref x.2.1]))]
def wy_W (t : Nat → ClassId) (L : List Wy) : va_W := L.flatMap (wy_c t)
abbrev tyL (t : Nat → ClassId) : List (ClassId × FieldType) := [(t 0, .int), (t 1, .boolean), (t 2, .long), (t 3, .object R_FW)]
def wW (a : Nat → Nat) (t : Nat → ClassId) (n : Nat) (kd : Nat → Nat) (em : Nat → Bool) (br : Nat → Bool) (ii : Nat → Int32) (oo : Nat → Int32) (np : Nat) (ea : Nat → Nat) (eb : Nat → Nat) (li : Nat → Nat) (rn : Nat → Bool) (wa : Nat → Option Nat) (wn : Nat) (sT : Nat → Bool) (sP : Nat → Bool) (ak : Nat) (ap : Nat → Nat) (af : Nat → Nat) (tt : Nat → Nat) (ac : Nat → Nat) (ct : Nat → Nat) (rp : Nat → Nat) (rt : Nat → Nat) (rest : va_W) (L : List Wy) : va_W := [(a 0, .inr (0, [.ref (a 1), .ref (a 2), .ref (a 3), .ref (a 4), .int (nI wn)])), (a 1, .inr (1, [.ref (a 5), .ref (a 6), .ref (a 7), .ref (a 8), .ref (a 9), .int (nI n)])), (a 2, .inr (2, [.ref (a 10), .ref (a 11), .ref (a 12), .ref (a 13), .int (nI np)])), (a 3, .inr (3, [.ref (a 1), .ref (a 2), .ref (a 14), .ref (a 15), .ref (a 16), .ref (a 17), .ref (a 18), .ref (a 19), .int (nI ak), .ref (a 20), .ref (a 21), .ref (a 22)])), (a 4, .inl (t 3, 64, .inr (.inr (.inr (.inr wa))))), (a 5, .inl (t 0, 48, .inl (fun j => nI (kd j)))), (a 6, .inl (t 1, 48, .inl (fun j => bI (em j)))), (a 7, .inl (t 1, 48, .inl (fun j => bI (br j)))), (a 8, .inl (t 0, 48, .inl ii)), (a 9, .inl (t 0, 48, .inl oo)), (a 10, .inl (t 0, 96, .inl (fun j => nI (ea j)))), (a 11, .inl (t 0, 96, .inl (fun j => nI (eb j)))), (a 12, .inl (t 2, 96, .inr (.inl (fun j => lN (li j))))), (a 13, .inl (t 1, 96, .inl (fun j => bI (rn j)))), (a 14, .inl (t 1, 48, .inl (fun j => bI (sT j)))), (a 15, .inl (t 1, 96, .inl (fun j => bI (sP j)))), (a 16, .inl (t 0, 192, .inl (fun j => nI (ap j)))), (a 17, .inl (t 0, 192, .inl (fun j => nI (af j)))), (a 18, .inl (t 0, 192, .inl (fun j => nI (tt j)))), (a 19, .inl (t 2, 192, .inr (.inl (fun j => lN (ac j))))), (a 20, .inl (t 2, 48, .inr (.inl (fun j => lN (ct j))))), (a 21, .inl (t 0, 48, .inl (fun j => nI (rp j)))), (a 22, .inl (t 0, 48, .inl (fun j => nI (rt j))))] ++ (rest ++ wy_W t L)
/-! RULES: a cut at a place where paths meet, loops -/
section RULES
variable {p : Program} {l : Launch} {e : Env} {R : Room} {s : State} {m : MethodId} {args : Array Value} {below : List Frame} {meth : Method} {c : Code} {H : Heap} {locs : List Loc} {cells slots : Nat} {Q : State → Prop}
variable {nL : Nat} {g : va_G} {cl : List vw_C} {A : Nat → Prop} {H0 : Heap}
theorem wcut {g1 g2 : JFrame} (tail : W p l e R s m args below meth c H locs cells slots Q g2) (k : W p l e R s m args below meth c H locs cells slots Q g2 → W p l e R s m args below meth c H locs cells slots Q g1) : W p l e R s m args below meth c H locs cells slots Q g1 := k tail
/-- a cut for any locals that hold lv' -/
theorem wcutL {g1 : JFrame} {pc' : Nat} {st' : List Value} {lv' : List (Nat × Value)} (tail : ∀ ls' : Array Slot, lv_has ls' nL lv' → W p l e R s m args below meth c H locs cells slots Q (F0 m pc' ls' st')) (k : (∀ ls' : Array Slot, lv_has ls' nL lv' → W p l e R s m args below meth c H locs cells slots Q (F0 m pc' ls' st')) → W p l e R s m args below meth c H locs cells slots Q g1) : W p l e R s m args below meth c H locs cells slots Q g1 := k tail
/-- a cut for any world out of a family, any locals -/
theorem wcutM {σ : Type} {g1 : JFrame} {pc' : Nat} {st' : σ → List Value} {lv' : σ → List (Nat × Value)} {w' : σ → va_W} {inv : σ → Prop} (tail : ∀ (x : σ), inv x → ∀ (H' : Heap) (locs' : List Loc) (ls' : Array Slot), wB g cl A H0 (w' x) H' locs' → lv_has ls' nL (lv' x) → W p l e R s m args below meth c H' locs' cells slots Q (F0 m pc' ls' (st' x))) (k : (∀ (x : σ), inv x → ∀ (H' : Heap) (locs' : List Loc) (ls' : Array Slot), wB g cl A H0 (w' x) H' locs' → lv_has ls' nL (lv' x) → W p l e R s m args below meth c H' locs' cells slots Q (F0 m pc' ls' (st' x))) → W p l e R s m args below meth c H locs cells slots Q g1) : W p l e R s m args below meth c H locs cells slots Q g1 := k tail
/-- a loop that only reads -/
theorem wlR {σ : Type} {head : Nat} (μ : σ → Nat) (inv : σ → Prop) (lvF : σ → List (Nat × Value)) (step : ∀ s0 : σ, inv s0 → (∀ s1 : σ, inv s1 → μ s1 < μ s0 → ∀ ls1 : Array Slot, lv_has ls1 nL (lvF s1) → W p l e R s m args below meth c H locs cells slots Q (F0 m head ls1 [])) → ∀ ls : Array Slot, lv_has ls nL (lvF s0) → W p l e R s m args below meth c H locs cells slots Q (F0 m head ls [])) (s0 : σ) (h0 : inv s0) {ls : Array Slot} (hl : lv_has ls nL (lvF s0)) : W p l e R s m args below meth c H locs cells slots Q (F0 m head ls []) := by
  have key : ∀ (k : Nat) (s0 : σ), μ s0 < k → inv s0 → ∀ ls : Array Slot, lv_has ls nL (lvF s0) → W p l e R s m args below meth c H locs cells slots Q (F0 m head ls []) := by
    intro k
    induction k with
    | zero => intro s0 h; exact absurd h (Nat.not_lt_zero _)
    | succ k ih =>
      intro s0 h hi ls hl
      exact step s0 hi (fun s1 h1 h2 ls1 hl1 => ih s1 (by omega) h1 ls1 hl1) ls hl
  exact key (μ s0 + 1) s0 (Nat.lt_succ_self _) h0 ls hl
/-- a loop that writes in the world -/
theorem wlM {σ : Type} {head : Nat} (μ : σ → Nat) (inv : σ → Prop) (wv : σ → va_W) (lvF : σ → List (Nat × Value)) (step : ∀ s0 : σ, inv s0 → (∀ s1 : σ, inv s1 → μ s1 < μ s0 → ∀ (H1 : Heap) (locs1 : List Loc) (ls1 : Array Slot), wB g cl A H0 (wv s1) H1 locs1 → lv_has ls1 nL (lvF s1) → W p l e R s m args below meth c H1 locs1 cells slots Q (F0 m head ls1 [])) → ∀ (H : Heap) (locs : List Loc) (ls : Array Slot), wB g cl A H0 (wv s0) H locs → lv_has ls nL (lvF s0) → W p l e R s m args below meth c H locs cells slots Q (F0 m head ls [])) (s0 : σ) (h0 : inv s0) {ls : Array Slot} (hB : wB g cl A H0 (wv s0) H locs) (hl : lv_has ls nL (lvF s0)) : W p l e R s m args below meth c H locs cells slots Q (F0 m head ls []) := by
  have key : ∀ (k : Nat) (s0 : σ), μ s0 < k → inv s0 → ∀ (H : Heap) (locs : List Loc) (ls : Array Slot), wB g cl A H0 (wv s0) H locs → lv_has ls nL (lvF s0) → W p l e R s m args below meth c H locs cells slots Q (F0 m head ls []) := by
    intro k
    induction k with
    | zero => intro s0 h; exact absurd h (Nat.not_lt_zero _)
    | succ k ih =>
      intro s0 h hi H locs ls hB hl
      exact step s0 hi (fun s1 h1 h2 H1 locs1 ls1 hB1 hl1 => ih s1 (by omega) h1 H1 locs1 ls1 hB1 hl1) H locs ls hB hl
  exact key (μ s0 + 1) s0 (Nat.lt_succ_self _) h0 H locs ls hB hl
end RULES
theorem nI_ne {a b : Nat} (ha : a < 2 ^ 31) (hb : b < 2 ^ 31) : ¬ nI a = nI b ↔ a ≠ b := not_congr (nI_eq ha hb)
theorem nI_nle' {a b : Nat} (ha : a < 2 ^ 31) (hb : b < 2 ^ 31) : ¬ nI a ≤ nI b ↔ b < a := by rw [nI_leI ha hb]; omega
theorem nI_nlt' {a b : Nat} (ha : a < 2 ^ 31) (hb : b < 2 ^ 31) : ¬ nI a < nI b ↔ b ≤ a := by rw [nI_ltI ha hb]; omega
/-! pure words of the class's small questions -/
def hasB (n : Nat) (x : Int32) : Bool := decide (0 ≤ x.toInt ∧ x.toInt < (n : Int))
theorem hasB_neg {n : Nat} {x : Int32} (h : x < 0) : hasB n x = false := by
  have h1 := Int32.lt_iff_toInt_lt.mp h
  rw [Int32.toInt_zero] at h1
  exact decide_eq_false (fun q => by omega)
theorem hasB_ge {n : Nat} {x : Int32} (hn : n < 2 ^ 31) (h : nI n ≤ x) : hasB n x = false := by
  have h1 := Int32.le_iff_toInt_le.mp h
  rw [nI_toInt hn] at h1
  exact decide_eq_false (fun q => by omega)
theorem hasB_t {n : Nat} {x : Int32} (hn : n < 2 ^ 31) (h0 : ¬ x < 0) (h : ¬ nI n ≤ x) : hasB n x = true := by
  have h2 : ¬ x.toInt < (0 : Int32).toInt := fun q => h0 (Int32.lt_iff_toInt_lt.mpr q)
  have h1 : ¬ (nI n).toInt ≤ x.toInt := fun q => h (Int32.le_iff_toInt_le.mpr q)
  rw [nI_toInt hn] at h1
  rw [Int32.toInt_zero] at h2
  exact decide_eq_true ⟨by omega, by omega⟩
theorem hasB_ex {n : Nat} {x : Int32} (hn : n < 2 ^ 31) (h : hasB n x = true) : ∃ j, j < n ∧ x = nI j := by
  have h1 := of_decide_eq_true h
  exact vp_in_of (vp_in_iff.mpr h1) hn
theorem hasB_nI {n j : Nat} (hj : j < 2 ^ 31) : hasB n (nI j) = decide (j < n) := by
  unfold hasB
  rw [nI_toInt hj]
  by_cases h : j < n
  · rw [decide_eq_true h]
    exact decide_eq_true ⟨by omega, by omega⟩
  · rw [decide_eq_false h]
    exact decide_eq_false (fun q => by omega)
/-- some number below k has f -/
def anyN (f : Nat → Bool) : Nat → Bool
  | 0 => false
  | k + 1 => anyN f k || f k
theorem anyN_f {f : Nat → Bool} : ∀ {k : Nat}, anyN f k = false ↔ ∀ j, j < k → f j = false
  | 0 => ⟨fun _ j h => absurd h (Nat.not_lt_zero _), fun _ => rfl⟩
  | k + 1 => by
    unfold anyN
    rw [Bool.or_eq_false_iff, anyN_f (k := k)]
    constructor
    · intro h j hj
      rcases Nat.lt_succ_iff_lt_or_eq.mp hj with h1 | h1
      · exact h.1 j h1
      · rw [h1]; exact h.2
    · intro h
      exact ⟨fun j hj => h j (by omega), h k (by omega)⟩
theorem anyN_t {f : Nat → Bool} {k : Nat} : anyN f k = true ↔ ∃ j, j < k ∧ f j = true := by
  constructor
  · intro h
    rcases Classical.em (∃ j, j < k ∧ f j = true) with q | q
    · exact q
    · have h2 : anyN f k = false := anyN_f.mpr (fun j hj => by
        cases hf : f j with
        | false => rfl
        | true => exact absurd ⟨j, hj, hf⟩ q)
      rw [h2] at h
      cases h
  · rintro ⟨j, hj, hf⟩
    cases h : anyN f k with
    | true => rfl
    | false => rw [anyN_f.mp h j hj] at hf; cases hf
/-- how many numbers below k have f -/
def cntN (f : Nat → Bool) : Nat → Nat
  | 0 => 0
  | k + 1 => cntN f k + (if f k then 1 else 0)
theorem cntN_le (f : Nat → Bool) : ∀ k, cntN f k ≤ k
  | 0 => Nat.le_refl _
  | k + 1 => by
    have := cntN_le f k
    unfold cntN
    split <;> omega
theorem cntN_t {f : Nat → Bool} {k : Nat} (h : f k = true) : cntN f (k + 1) = cntN f k + 1 := by
  show cntN f k + (if f k then 1 else 0) = _
  rw [h]; rfl
theorem cntN_n {f : Nat → Bool} {k : Nat} (h : f k = false) : cntN f (k + 1) = cntN f k := by
  show cntN f k + (if f k then 1 else 0) = _
  rw [h]; rfl
def letB (kd : Nat → Nat) (ii oo : Nat → Int32) (u v : Nat) : Bool := (decide (kd u ≠ 1) || decide (oo u = nI v)) && (decide (kd v ≠ 1) || decide (ii v = nI u))
theorem lb_1 {x : Nat} {b : Bool} (h : ¬ nI x = nI 1) : (decide (x ≠ 1) || b) = true := by
  have e : x ≠ 1 := fun q => h (by rw [q])
  rw [decide_eq_true e]; rfl
theorem lb_2 {b : Bool} {x y : Int32} (h : x = y) : (b || decide (x = y)) = true := by
  rw [decide_eq_true h, Bool.or_true]
theorem lb_3 {k : Nat} {x y : Int32} (hk : k < 2 ^ 31) (h : nI k = nI 1) (h2 : ¬ x = y) : (decide (k ≠ 1) || decide (x = y)) = false := by
  have e : k = 1 := (nI_eq hk (by decide)).mp h
  have e2 : ¬ (k ≠ 1) := fun q => q e
  rw [decide_eq_false h2, decide_eq_false e2]; rfl
def isK (n : Nat) (kd : Nat → Nat) (x : Int32) (w : Nat) : Bool := hasB n x && decide (kd x.toNatClampNeg = w)
theorem isK_n {n : Nat} {kd : Nat → Nat} {x : Int32} {w : Nat} (h : hasB n x = false) : isK n kd x w = false := by
  unfold isK; rw [h]; rfl
theorem isK_j {n : Nat} {kd : Nat → Nat} {j w : Nat} (hj : j < n) (_ : kd j < 2 ^ 31) (hn : n < 2 ^ 31) : isK n kd (nI j) w = decide (kd j = w) := by
  unfold isK
  rw [hasB_nI (by omega), decide_eq_true hj, nI_clamp (by omega)]; rfl
theorem isK_ex {n : Nat} {kd : Nat → Nat} {x : Int32} {w : Nat} (hn : n < 2 ^ 31) (h : isK n kd x w = true) : ∃ j, j < n ∧ x = nI j ∧ kd j = w := by
  unfold isK at h
  rw [Bool.and_eq_true] at h
  obtain ⟨j, hj, e⟩ := hasB_ex hn h.1
  have h2 := of_decide_eq_true h.2
  rw [e, nI_clamp (by omega)] at h2
  exact ⟨j, hj, e, h2⟩
def endB (ea eb : Nat → Nat) (v p : Nat) : Bool := decide (ea p = v) || decide (eb p = v)
theorem endB_1 {ea eb : Nat → Nat} {v p : Nat} (h : ea p = v) : endB ea eb v p = true := by
  unfold endB; rw [decide_eq_true h]; rfl
theorem endB_2 {ea eb : Nat → Nat} {v p : Nat} (h : eb p = v) : endB ea eb v p = true := by
  unfold endB; rw [decide_eq_true h, Bool.or_true]
theorem endB_f {ea eb : Nat → Nat} {v p : Nat} (h : ¬ ea p = v) (h2 : ¬ eb p = v) : endB ea eb v p = false := by
  unfold endB; rw [decide_eq_false h, decide_eq_false h2]; rfl
def joinB (ea eb : Nat → Nat) (x y : Int32) (p : Nat) : Bool := (decide (nI (ea p) = x) && decide (nI (eb p) = y)) || (decide (nI (ea p) = y) && decide (nI (eb p) = x))
end
section
section THINGS
variable {l : Launch} {g : va_G} {t : Nat → ClassId} {a : Nat → Nat} {n : Nat} {kd : Nat → Nat} {em : Nat → Bool} {br : Nat → Bool} {ii : Nat → Int32} {oo : Nat → Int32} {np : Nat} {ea : Nat → Nat} {eb : Nat → Nat} {li : Nat → Nat} {rn : Nat → Bool} {wa : Nat → Option Nat} {wn : Nat} {sT : Nat → Bool} {sP : Nat → Bool} {ak : Nat} {ap : Nat → Nat} {af : Nat → Nat} {tt : Nat → Nat} {ac : Nat → Nat} {ct : Nat → Nat} {rp : Nat → Nat} {rt : Nat → Nat} {rest : va_W} {L : List Wy}
set_option maxHeartbeats 4000000 in
set_option maxRecDepth 100000 in
theorem c_TH_has (x : Int32) (hn : n ≤ 48) : Rd l y_TH_has w_TH_has ({ frames := 0, cells := 0, slots := 0, locals := 0 }) g classes (tyL t) [.ref (a 1), .int x] (wW a t n kd em br ii oo np ea eb li rn wa wn sT sP ak ap af tt ac ct rp rt rest L) (some (.int (bI (hasB n x)))) := by
  refine Rd.of (cc := b_TH_has) (maxL := 2) (ret := (some .boolean)) (own := R_TH) (by decide) rfl rfl (Nat.le_of_ble_eq_true rfl) ?_
  intro p e s m args below meth c C0 hr hlk hP ls hl
  have hl : lv_has ls 2 [(0, .ref (a 1)), (1, .int x)] := hl
  refine lv_iload_n C0.1 C0.2.1 d_TH_has_0 rfl (lv_at hl 1 rfl) ?_
  refine lv_if_lt (tgt := 16) C0.1 C0.2.1 d_TH_has_1 (by decide) (fun c_1 => ?_) (fun c_1 => ?_)
  · refine lv_iconst (v := nI 0) C0.1 C0.2.1 d_TH_has_16 (by decide) ?_
    exact eR_z C0 hr hlk (b := hasB n x) (by rw [hasB_neg c_1]; rfl) rfl d_TH_has_17
  · refine lv_iload_n C0.1 C0.2.1 d_TH_has_4 rfl (lv_at hl 1 rfl) ?_
    refine lv_aload_n C0.1 C0.2.1 d_TH_has_5 rfl (lv_at hl 0 rfl) ?_
    refine gf_TH_28 C0 hP 1 rfl rfl d_TH_has_6 ?_
    refine lv_icmp_ge (tgt := 16) C0.1 C0.2.1 d_TH_has_9 (by decide) (fun c_9 => ?_) (fun c_9 => ?_)
    · refine lv_iconst (v := nI 0) C0.1 C0.2.1 d_TH_has_16 (by decide) ?_
      exact eR_z C0 hr hlk (b := hasB n x) (by rw [hasB_ge (by omega) c_9]; rfl) rfl d_TH_has_17
    · refine lv_iconst (v := nI 1) C0.1 C0.2.1 d_TH_has_12 (by decide) ?_
      refine lv_goto (tgt := 17) C0.1 C0.2.1 d_TH_has_13 (by decide) ?_
      exact eR_z C0 hr hlk (b := hasB n x) (by rw [hasB_t (by omega) c_1 c_9]; rfl) rfl d_TH_has_17
set_option maxHeartbeats 4000000 in
set_option maxRecDepth 100000 in
theorem c_PI_has (x : Int32) (hn : np ≤ 96) : Rd l y_PI_has w_PI_has ({ frames := 0, cells := 0, slots := 0, locals := 0 }) g classes (tyL t) [.ref (a 2), .int x] (wW a t n kd em br ii oo np ea eb li rn wa wn sT sP ak ap af tt ac ct rp rt rest L) (some (.int (bI (hasB np x)))) := by
  refine Rd.of (cc := b_PI_has) (maxL := 2) (ret := (some .boolean)) (own := R_PI) (by decide) rfl rfl (Nat.le_of_ble_eq_true rfl) ?_
  intro p e s m args below meth c C0 hr hlk hP ls hl
  have hl : lv_has ls 2 [(0, .ref (a 2)), (1, .int x)] := hl
  refine lv_iload_n C0.1 C0.2.1 d_PI_has_0 rfl (lv_at hl 1 rfl) ?_
  refine lv_if_lt (tgt := 16) C0.1 C0.2.1 d_PI_has_1 (by decide) (fun c_1 => ?_) (fun c_1 => ?_)
  · refine lv_iconst (v := nI 0) C0.1 C0.2.1 d_PI_has_16 (by decide) ?_
    exact eR_z C0 hr hlk (b := hasB np x) (by rw [hasB_neg c_1]; rfl) rfl d_PI_has_17
  · refine lv_iload_n C0.1 C0.2.1 d_PI_has_4 rfl (lv_at hl 1 rfl) ?_
    refine lv_aload_n C0.1 C0.2.1 d_PI_has_5 rfl (lv_at hl 0 rfl) ?_
    refine gf_PI_26 C0 hP 2 rfl rfl d_PI_has_6 ?_
    refine lv_icmp_ge (tgt := 16) C0.1 C0.2.1 d_PI_has_9 (by decide) (fun c_9 => ?_) (fun c_9 => ?_)
    · refine lv_iconst (v := nI 0) C0.1 C0.2.1 d_PI_has_16 (by decide) ?_
      exact eR_z C0 hr hlk (b := hasB np x) (by rw [hasB_ge (by omega) c_9]; rfl) rfl d_PI_has_17
    · refine lv_iconst (v := nI 1) C0.1 C0.2.1 d_PI_has_12 (by decide) ?_
      refine lv_goto (tgt := 17) C0.1 C0.2.1 d_PI_has_13 (by decide) ?_
      exact eR_z C0 hr hlk (b := hasB np x) (by rw [hasB_t (by omega) c_1 c_9]; rfl) rfl d_PI_has_17
set_option maxHeartbeats 4000000 in
set_option maxRecDepth 100000 in
theorem c_TH_isKind (x : Int32) (w0 : Nat) (hw : w0 < 3) (hn : n ≤ 48) (hk : ∀ j, kd j < 3) : Rd l y_TH_isKind w_TH_isKind ({ frames := 1, cells := 0, slots := 0, locals := 21 }) g classes (tyL t) [.ref (a 1), .int x, .int (nI w0)] (wW a t n kd em br ii oo np ea eb li rn wa wn sT sP ak ap af tt ac ct rp rt rest L) (some (.int (bI (isK n kd x w0)))) := by
  refine Rd.of (cc := b_TH_isKind) (maxL := 3) (ret := (some .boolean)) (own := R_TH) (by decide) rfl rfl (Nat.le_of_ble_eq_true rfl) ?_
  intro p e s m args below meth c C0 hr hlk hP ls hl
  have hl : lv_has ls 3 [(0, .ref (a 1)), (1, .int x), (2, .int (nI w0))] := hl
  refine lv_aload_n C0.1 C0.2.1 d_TH_isKind_0 rfl (lv_at hl 0 rfl) ?_
  refine lv_iload_n C0.1 C0.2.1 d_TH_isKind_1 rfl (lv_at hl 1 rfl) ?_
  refine cR (As := [.int x]) (rest := []) C0 (c_TH_has x hn) (q_TH_32 C0.2.2.2.2.1 rfl rfl ⟨Nat.le_of_ble_eq_true rfl, Nat.le_of_ble_eq_true rfl⟩) (ci := 1) (q0 := 1) rfl rfl rfl hP hl.1 rfl rfl (Nat.le_of_ble_eq_true rfl) d_TH_isKind_2 ⟨Nat.zero_le _, Nat.zero_le _⟩ ?_
  refine W.eq (g2 := F0 m 5 ls [.int (bI (hasB n x))]) rfl ?_
  refine lv_if_eq (tgt := 22) C0.1 C0.2.1 d_TH_isKind_5 (by decide) (fun c_5 => ?_) (fun c_5 => ?_)
  · refine lv_iconst (v := nI 0) C0.1 C0.2.1 d_TH_isKind_22 (by decide) ?_
    exact eR_z C0 hr hlk (b := isK n kd x w0) (by rw [isK_n (bI_0.mp c_5)]; rfl) rfl d_TH_isKind_23
  · have c_5 := bI_n0.mp c_5
    obtain ⟨j, hj, rfl⟩ := hasB_ex (by omega) c_5
    rw [hasB_nI (by omega)] at c_5
    refine lv_aload_n C0.1 C0.2.1 d_TH_isKind_8 rfl (lv_at hl 0 rfl) ?_
    refine gf_TH_9 C0 hP 1 rfl rfl d_TH_isKind_9 ?_
    refine lv_iload_n C0.1 C0.2.1 d_TH_isKind_12 rfl (lv_at hl 1 rfl) ?_
    refine ald_i C0 hP 5 0 rfl rfl (by omega) (by decide) d_TH_isKind_13 ?_
    refine lv_iload_n C0.1 C0.2.1 d_TH_isKind_14 rfl (lv_at hl 2 rfl) ?_
    refine lv_icmp_ne (tgt := 22) C0.1 C0.2.1 d_TH_isKind_15 (by decide) (fun c_15 => ?_) (fun c_15 => ?_)
    · refine lv_iconst (v := nI 0) C0.1 C0.2.1 d_TH_isKind_22 (by decide) ?_
      exact eR_z C0 hr hlk (b := isK n kd (nI j) w0) (by rw [isK_j hj (by have := hk j; omega) (by omega)]; rw [decide_eq_false (fun q => c_15 (by rw [q]))]; rfl) rfl d_TH_isKind_23
    · refine lv_iconst (v := nI 1) C0.1 C0.2.1 d_TH_isKind_18 (by decide) ?_
      refine lv_goto (tgt := 23) C0.1 C0.2.1 d_TH_isKind_19 (by decide) ?_
      exact eR_z C0 hr hlk (b := isK n kd (nI j) w0) (by rw [isK_j hj (by have := hk j; omega) (by omega)]; rw [decide_eq_true ((nI_eq (by have := hk j; omega) (by omega)).mp c_15)]; rfl) rfl d_TH_isKind_23
set_option maxHeartbeats 4000000 in
set_option maxRecDepth 100000 in
theorem c_TH_letFlow (u v : Nat) (hu : u < 48) (hv : v < 48) (hk : ∀ j, kd j < 3) : Rd l y_TH_letFlow w_TH_letFlow ({ frames := 0, cells := 0, slots := 0, locals := 0 }) g classes (tyL t) [.ref (a 1), .int (nI u), .int (nI v)] (wW a t n kd em br ii oo np ea eb li rn wa wn sT sP ak ap af tt ac ct rp rt rest L) (some (.int (bI (letB kd ii oo u v)))) := by
  refine Rd.of (cc := b_TH_letFlow) (maxL := 5) (ret := (some .boolean)) (own := R_TH) (by decide) rfl rfl (Nat.le_of_ble_eq_true rfl) ?_
  intro p e s m args below meth c C0 hr hlk hP ls hl
  have hl : lv_has ls 5 [(0, .ref (a 1)), (1, .int (nI u)), (2, .int (nI v))] := hl
  refine wcut (g2 := F0 m 25 ls [.int (bI (decide (kd u ≠ 1) || decide (oo u = nI v)))]) ?_ (fun T25 => ?_)
  · refine lv_istore_n (lv' := [(3, .int (bI (decide (kd u ≠ 1) || decide (oo u = nI v)))), (0, .ref (a 1)), (1, .int (nI u)), (2, .int (nI v))]) C0.1 C0.2.1 d_TH_letFlow_25 rfl hl (by decide) rfl (fun ls hl => ?_)
    refine wcut (g2 := F0 m 51 ls [.int (bI (decide (kd v ≠ 1) || decide (ii v = nI u)))]) ?_ (fun T51 => ?_)
    · refine lv_istore (lv' := [(4, .int (bI (decide (kd v ≠ 1) || decide (ii v = nI u)))), (3, .int (bI (decide (kd u ≠ 1) || decide (oo u = nI v)))), (0, .ref (a 1)), (1, .int (nI u)), (2, .int (nI v))]) C0.1 C0.2.1 d_TH_letFlow_51 hl (by decide) rfl (fun ls hl => ?_)
      refine lv_iload_n C0.1 C0.2.1 d_TH_letFlow_53 rfl (lv_at hl 1 rfl) ?_
      refine lv_if_eq (tgt := 66) C0.1 C0.2.1 d_TH_letFlow_54 (by decide) (fun c_54 => ?_) (fun c_54 => ?_)
      · refine lv_iconst (v := nI 0) C0.1 C0.2.1 d_TH_letFlow_66 (by decide) ?_
        exact eR_z C0 hr hlk (b := letB kd ii oo u v) (by unfold letB; rw [bI_0.mp c_54]; rfl) rfl d_TH_letFlow_67
      · refine lv_iload C0.1 C0.2.1 d_TH_letFlow_57 (lv_at hl 0 rfl) ?_
        refine lv_if_eq (tgt := 66) C0.1 C0.2.1 d_TH_letFlow_59 (by decide) (fun c_59 => ?_) (fun c_59 => ?_)
        · refine lv_iconst (v := nI 0) C0.1 C0.2.1 d_TH_letFlow_66 (by decide) ?_
          exact eR_z C0 hr hlk (b := letB kd ii oo u v) (by unfold letB; rw [bI_0.mp c_59, Bool.and_false]; rfl) rfl d_TH_letFlow_67
        · refine lv_iconst (v := nI 1) C0.1 C0.2.1 d_TH_letFlow_62 (by decide) ?_
          refine lv_goto (tgt := 67) C0.1 C0.2.1 d_TH_letFlow_63 (by decide) ?_
          exact eR_z C0 hr hlk (b := letB kd ii oo u v) (by unfold letB; rw [bI_n0.mp c_54, bI_n0.mp c_59]; rfl) rfl d_TH_letFlow_67
    · refine lv_aload_n C0.1 C0.2.1 d_TH_letFlow_26 rfl (lv_at hl 1 rfl) ?_
      refine gf_TH_9 C0 hP 1 rfl rfl d_TH_letFlow_27 ?_
      refine lv_iload_n C0.1 C0.2.1 d_TH_letFlow_30 rfl (lv_at hl 3 rfl) ?_
      refine ald_i C0 hP 5 0 rfl rfl (by omega) (by decide) d_TH_letFlow_31 ?_
      refine lv_iconst (v := nI 1) C0.1 C0.2.1 d_TH_letFlow_32 (by decide) ?_
      refine lv_icmp_ne (tgt := 46) C0.1 C0.2.1 d_TH_letFlow_33 (by decide) (fun c_33 => ?_) (fun c_33 => ?_)
      · refine lv_iconst (v := nI 1) C0.1 C0.2.1 d_TH_letFlow_46 (by decide) ?_
        refine lv_goto (tgt := 51) C0.1 C0.2.1 d_TH_letFlow_47 (by decide) ?_
        exact ti (show nI 1 = bI (decide (kd v ≠ 1) || decide (ii v = nI u)) from by rw [lb_1 c_33]; rfl) T51
      · refine lv_aload_n C0.1 C0.2.1 d_TH_letFlow_36 rfl (lv_at hl 1 rfl) ?_
        refine gf_TH_22 C0 hP 1 rfl rfl d_TH_letFlow_37 ?_
        refine lv_iload_n C0.1 C0.2.1 d_TH_letFlow_40 rfl (lv_at hl 3 rfl) ?_
        refine ald_i C0 hP 8 0 rfl rfl (by omega) (by decide) d_TH_letFlow_41 ?_
        refine lv_iload_n C0.1 C0.2.1 d_TH_letFlow_42 rfl (lv_at hl 2 rfl) ?_
        refine lv_icmp_ne (tgt := 50) C0.1 C0.2.1 d_TH_letFlow_43 (by decide) (fun c_43 => ?_) (fun c_43 => ?_)
        · refine lv_iconst (v := nI 0) C0.1 C0.2.1 d_TH_letFlow_50 (by decide) ?_
          exact ti (show nI 0 = bI (decide (kd v ≠ 1) || decide (ii v = nI u)) from by rw [lb_3 (by have := hk v; omega) c_33 c_43]; rfl) T51
        · refine lv_iconst (v := nI 1) C0.1 C0.2.1 d_TH_letFlow_46 (by decide) ?_
          refine lv_goto (tgt := 51) C0.1 C0.2.1 d_TH_letFlow_47 (by decide) ?_
          exact ti (show nI 1 = bI (decide (kd v ≠ 1) || decide (ii v = nI u)) from by rw [lb_2 c_43]; rfl) T51
  · refine lv_aload_n C0.1 C0.2.1 d_TH_letFlow_0 rfl (lv_at hl 0 rfl) ?_
    refine gf_TH_9 C0 hP 1 rfl rfl d_TH_letFlow_1 ?_
    refine lv_iload_n C0.1 C0.2.1 d_TH_letFlow_4 rfl (lv_at hl 1 rfl) ?_
    refine ald_i C0 hP 5 0 rfl rfl (by omega) (by decide) d_TH_letFlow_5 ?_
    refine lv_iconst (v := nI 1) C0.1 C0.2.1 d_TH_letFlow_6 (by decide) ?_
    refine lv_icmp_ne (tgt := 20) C0.1 C0.2.1 d_TH_letFlow_7 (by decide) (fun c_7 => ?_) (fun c_7 => ?_)
    · refine lv_iconst (v := nI 1) C0.1 C0.2.1 d_TH_letFlow_20 (by decide) ?_
      refine lv_goto (tgt := 25) C0.1 C0.2.1 d_TH_letFlow_21 (by decide) ?_
      exact ti (show nI 1 = bI (decide (kd u ≠ 1) || decide (oo u = nI v)) from by rw [lb_1 c_7]; rfl) T25
    · refine lv_aload_n C0.1 C0.2.1 d_TH_letFlow_10 rfl (lv_at hl 0 rfl) ?_
      refine gf_TH_25 C0 hP 1 rfl rfl d_TH_letFlow_11 ?_
      refine lv_iload_n C0.1 C0.2.1 d_TH_letFlow_14 rfl (lv_at hl 1 rfl) ?_
      refine ald_i C0 hP 9 0 rfl rfl (by omega) (by decide) d_TH_letFlow_15 ?_
      refine lv_iload_n C0.1 C0.2.1 d_TH_letFlow_16 rfl (lv_at hl 2 rfl) ?_
      refine lv_icmp_ne (tgt := 24) C0.1 C0.2.1 d_TH_letFlow_17 (by decide) (fun c_17 => ?_) (fun c_17 => ?_)
      · refine lv_iconst (v := nI 0) C0.1 C0.2.1 d_TH_letFlow_24 (by decide) ?_
        exact ti (show nI 0 = bI (decide (kd u ≠ 1) || decide (oo u = nI v)) from by rw [lb_3 (by have := hk u; omega) c_7 c_17]; rfl) T25
      · refine lv_iconst (v := nI 1) C0.1 C0.2.1 d_TH_letFlow_20 (by decide) ?_
        refine lv_goto (tgt := 25) C0.1 C0.2.1 d_TH_letFlow_21 (by decide) ?_
        exact ti (show nI 1 = bI (decide (kd u ≠ 1) || decide (oo u = nI v)) from by rw [lb_2 c_17]; rfl) T25
set_option maxHeartbeats 4000000 in
set_option maxRecDepth 100000 in
theorem c_TH_add_full (k0 : Int32) (b0 : Bool) (hn : n = 48) : Rd l y_TH_add w_TH_add ({ frames := 0, cells := 0, slots := 0, locals := 0 }) g classes (tyL t) [.ref (a 1), .int k0, .int (bI b0)] (wW a t n kd em br ii oo np ea eb li rn wa wn sT sP ak ap af tt ac ct rp rt rest L) (some (.int (-5))) := by
  refine Rd.of (cc := b_TH_add) (maxL := 3) (ret := (some .int)) (own := R_TH) (by decide) rfl rfl (Nat.le_of_ble_eq_true rfl) ?_
  intro p e s m args below meth c C0 hr hlk hP ls hl
  have hl : lv_has ls 3 [(0, .ref (a 1)), (1, .int k0), (2, .int (bI b0))] := hl
  refine lv_aload_n C0.1 C0.2.1 d_TH_add_0 rfl (lv_at hl 0 rfl) ?_
  refine gf_TH_28 C0 hP 1 rfl rfl d_TH_add_1 ?_
  refine lv_bipush (v := nI 48) C0.1 C0.2.1 d_TH_add_4 (by decide) ?_
  refine lv_icmp_lt (tgt := 12) C0.1 C0.2.1 d_TH_add_6 (by decide) (fun c_6 => ?_) (fun c_6 => ?_)
  · exact absurd ((nI_ltI (by omega) (by omega)).mp c_6) (by omega)
  · refine lv_bipush (v := -5) C0.1 C0.2.1 d_TH_add_9 (by decide) ?_
    exact eR_i C0 hr hlk (rfl) d_TH_add_11
set_option maxHeartbeats 4000000 in
set_option maxRecDepth 100000 in
theorem c_TH_add (k0 : Nat) (b0 : Bool) (hn : n < 48) : Mt l y_TH_add w_TH_add ({ frames := 0, cells := 0, slots := 0, locals := 0 }) g classes (tyL t) [.ref (a 1), .int (nI k0), .int (bI b0)] (wW a t n kd em br ii oo np ea eb li rn wa wn sT sP ak ap af tt ac ct rp rt rest L) (S := Unit) (fun v _ => v = some (.int (nI n))) (fun _ => (wW a t (n + 1) (va_up kd n k0) (va_up em n b0) br (va_up ii n (-1)) (va_up oo n (-1)) np ea eb li rn wa wn sT sP ak ap af tt ac ct rp rt rest L)) 0 0 := by
  refine Mt.of (cc := b_TH_add) (maxL := 3) (ret := (some .int)) (own := R_TH) (by decide) rfl rfl (Nat.le_of_ble_eq_true rfl) ?_
  intro p e s m args below meth c C0 hr hlk hin A hA hB ls hl
  have hl : lv_has ls 3 [(0, .ref (a 1)), (1, .int (nI k0)), (2, .int (bI b0))] := hl
  refine lv_aload_n C0.1 C0.2.1 d_TH_add_0 rfl (lv_at hl 0 rfl) ?_
  refine gf_TH_28 C0 hB.1 1 rfl rfl d_TH_add_1 ?_
  refine lv_bipush (v := nI 48) C0.1 C0.2.1 d_TH_add_4 (by decide) ?_
  refine lv_icmp_lt (tgt := 12) C0.1 C0.2.1 d_TH_add_6 (by decide) (fun c_6 => ?_) (fun c_6 => ?_)
  · refine lv_aload_n C0.1 C0.2.1 d_TH_add_12 rfl (lv_at hl 0 rfl) ?_
    refine gf_TH_9 C0 hB.1 1 rfl rfl d_TH_add_13 ?_
    refine lv_aload_n C0.1 C0.2.1 d_TH_add_16 rfl (lv_at hl 0 rfl) ?_
    refine gf_TH_28 C0 hB.1 1 rfl rfl d_TH_add_17 ?_
    refine lv_iload_n C0.1 C0.2.1 d_TH_add_20 rfl (lv_at hl 1 rfl) ?_
    refine ast_i (w' := (wW a t n (va_up kd n k0) em br ii oo np ea eb li rn wa wn sT sP ak ap af tt ac ct rp rt rest L)) C0 hB 5 0 rfl rfl (by omega) (by decide) up_nI rfl d_TH_add_21 (fun H locs hB => ?_)
    refine lv_aload_n C0.1 C0.2.1 d_TH_add_22 rfl (lv_at hl 0 rfl) ?_
    refine gf_TH_15 C0 hB.1 1 rfl rfl d_TH_add_23 ?_
    refine lv_aload_n C0.1 C0.2.1 d_TH_add_26 rfl (lv_at hl 0 rfl) ?_
    refine gf_TH_28 C0 hB.1 1 rfl rfl d_TH_add_27 ?_
    refine lv_iload_n C0.1 C0.2.1 d_TH_add_30 rfl (lv_at hl 2 rfl) ?_
    refine ast_z (w' := (wW a t n (va_up kd n k0) (va_up em n b0) br ii oo np ea eb li rn wa wn sT sP ak ap af tt ac ct rp rt rest L)) C0 hB 6 1 rfl rfl (by omega) (by decide) up_bI rfl d_TH_add_31 (fun H locs hB => ?_)
    refine lv_aload_n C0.1 C0.2.1 d_TH_add_32 rfl (lv_at hl 0 rfl) ?_
    refine gf_TH_22 C0 hB.1 1 rfl rfl d_TH_add_33 ?_
    refine lv_aload_n C0.1 C0.2.1 d_TH_add_36 rfl (lv_at hl 0 rfl) ?_
    refine gf_TH_28 C0 hB.1 1 rfl rfl d_TH_add_37 ?_
    refine lv_iconst (v := -1) C0.1 C0.2.1 d_TH_add_40 (by decide) ?_
    refine ast_i (w' := (wW a t n (va_up kd n k0) (va_up em n b0) br (va_up ii n (-1)) oo np ea eb li rn wa wn sT sP ak ap af tt ac ct rp rt rest L)) C0 hB 8 0 rfl rfl (by omega) (by decide) up_32 rfl d_TH_add_41 (fun H locs hB => ?_)
    refine lv_aload_n C0.1 C0.2.1 d_TH_add_42 rfl (lv_at hl 0 rfl) ?_
    refine gf_TH_25 C0 hB.1 1 rfl rfl d_TH_add_43 ?_
    refine lv_aload_n C0.1 C0.2.1 d_TH_add_46 rfl (lv_at hl 0 rfl) ?_
    refine gf_TH_28 C0 hB.1 1 rfl rfl d_TH_add_47 ?_
    refine lv_iconst (v := -1) C0.1 C0.2.1 d_TH_add_50 (by decide) ?_
    refine ast_i (w' := (wW a t n (va_up kd n k0) (va_up em n b0) br (va_up ii n (-1)) (va_up oo n (-1)) np ea eb li rn wa wn sT sP ak ap af tt ac ct rp rt rest L)) C0 hB 9 0 rfl rfl (by omega) (by decide) up_32 rfl d_TH_add_51 (fun H locs hB => ?_)
    refine lv_aload_n C0.1 C0.2.1 d_TH_add_52 rfl (lv_at hl 0 rfl) ?_
    refine lv_dup C0.1 C0.2.1 d_TH_add_53 rfl ?_
    refine gf_TH_28 C0 hB.1 1 rfl rfl d_TH_add_54 ?_
    refine lv_iconst (v := nI 1) C0.1 C0.2.1 d_TH_add_57 (by decide) ?_
    refine lv_iadd C0.1 C0.2.1 d_TH_add_58 ?_
    refine ti (show (nI n) + (nI 1) = nI (n + 1) from nI_add _ _) ?_
    refine pf_TH_28 (w' := (wW a t (n + 1) (va_up kd n k0) (va_up em n b0) br (va_up ii n (-1)) (va_up oo n (-1)) np ea eb li rn wa wn sT sP ak ap af tt ac ct rp rt rest L)) C0 hB 1 rfl (Nat.le_of_ble_eq_true rfl) rfl rfl rfl d_TH_add_59 (fun H locs hB => ?_)
    refine lv_aload_n C0.1 C0.2.1 d_TH_add_62 rfl (lv_at hl 0 rfl) ?_
    refine gf_TH_28 C0 hB.1 1 rfl rfl d_TH_add_63 ?_
    refine lv_iconst (v := nI 1) C0.1 C0.2.1 d_TH_add_66 (by decide) ?_
    refine lv_isub C0.1 C0.2.1 d_TH_add_67 ?_
    refine ti (show (nI (n + 1)) - (nI 1) = nI n from (pk_sub (by omega) : nI (n + 1) - nI 1 = nI (n + 1 - 1))) ?_
    exact eM_i C0 hr hlk () hB (rfl) (Nat.le_refl _) (Nat.le_refl _) d_TH_add_68
  · exact absurd ((nI_ltI (by omega) (by omega)).mpr hn) c_6
set_option maxHeartbeats 4000000 in
set_option maxRecDepth 100000 in
theorem c_PI_add_full (x y : Int32) (z : Int64) (hn : np = 96) : Rd l y_PI_add w_PI_add ({ frames := 0, cells := 0, slots := 0, locals := 0 }) g classes (tyL t) [.ref (a 2), .int x, .int y, .long z] (wW a t n kd em br ii oo np ea eb li rn wa wn sT sP ak ap af tt ac ct rp rt rest L) (some (.int (-5))) := by
  refine Rd.of (cc := b_PI_add) (maxL := 5) (ret := (some .int)) (own := R_PI) (by decide) rfl rfl (Nat.le_of_ble_eq_true rfl) ?_
  intro p e s m args below meth c C0 hr hlk hP ls hl
  have hl : lv_has ls 5 [(0, .ref (a 2)), (1, .int x), (2, .int y), (3, .long z)] := hl
  refine lv_aload_n C0.1 C0.2.1 d_PI_add_0 rfl (lv_at hl 0 rfl) ?_
  refine gf_PI_26 C0 hP 2 rfl rfl d_PI_add_1 ?_
  refine lv_bipush (v := nI 96) C0.1 C0.2.1 d_PI_add_4 (by decide) ?_
  refine lv_icmp_lt (tgt := 12) C0.1 C0.2.1 d_PI_add_6 (by decide) (fun c_6 => ?_) (fun c_6 => ?_)
  · exact absurd ((nI_ltI (by omega) (by omega)).mp c_6) (by omega)
  · refine lv_bipush (v := -5) C0.1 C0.2.1 d_PI_add_9 (by decide) ?_
    exact eR_i C0 hr hlk (rfl) d_PI_add_11
set_option maxHeartbeats 4000000 in
set_option maxRecDepth 100000 in
theorem c_PI_add (x y z : Nat) (hn : np < 96) : Mt l y_PI_add w_PI_add ({ frames := 0, cells := 0, slots := 0, locals := 0 }) g classes (tyL t) [.ref (a 2), .int (nI x), .int (nI y), .long (lN z)] (wW a t n kd em br ii oo np ea eb li rn wa wn sT sP ak ap af tt ac ct rp rt rest L) (S := Unit) (fun v _ => v = some (.int (nI np))) (fun _ => (wW a t n kd em br ii oo (np + 1) (va_up ea np x) (va_up eb np y) (va_up li np z) rn wa wn sT sP ak ap af tt ac ct rp rt rest L)) 0 0 := by
  refine Mt.of (cc := b_PI_add) (maxL := 5) (ret := (some .int)) (own := R_PI) (by decide) rfl rfl (Nat.le_of_ble_eq_true rfl) ?_
  intro p e s m args below meth c C0 hr hlk hin A hA hB ls hl
  have hl : lv_has ls 5 [(0, .ref (a 2)), (1, .int (nI x)), (2, .int (nI y)), (3, .long (lN z))] := hl
  refine lv_aload_n C0.1 C0.2.1 d_PI_add_0 rfl (lv_at hl 0 rfl) ?_
  refine gf_PI_26 C0 hB.1 2 rfl rfl d_PI_add_1 ?_
  refine lv_bipush (v := nI 96) C0.1 C0.2.1 d_PI_add_4 (by decide) ?_
  refine lv_icmp_lt (tgt := 12) C0.1 C0.2.1 d_PI_add_6 (by decide) (fun c_6 => ?_) (fun c_6 => ?_)
  · refine lv_aload_n C0.1 C0.2.1 d_PI_add_12 rfl (lv_at hl 0 rfl) ?_
    refine gf_PI_9 C0 hB.1 2 rfl rfl d_PI_add_13 ?_
    refine lv_aload_n C0.1 C0.2.1 d_PI_add_16 rfl (lv_at hl 0 rfl) ?_
    refine gf_PI_26 C0 hB.1 2 rfl rfl d_PI_add_17 ?_
    refine lv_iload_n C0.1 C0.2.1 d_PI_add_20 rfl (lv_at hl 1 rfl) ?_
    refine ast_i (w' := (wW a t n kd em br ii oo np (va_up ea np x) eb li rn wa wn sT sP ak ap af tt ac ct rp rt rest L)) C0 hB 10 0 rfl rfl (by omega) (by decide) up_nI rfl d_PI_add_21 (fun H locs hB => ?_)
    refine lv_aload_n C0.1 C0.2.1 d_PI_add_22 rfl (lv_at hl 0 rfl) ?_
    refine gf_PI_15 C0 hB.1 2 rfl rfl d_PI_add_23 ?_
    refine lv_aload_n C0.1 C0.2.1 d_PI_add_26 rfl (lv_at hl 0 rfl) ?_
    refine gf_PI_26 C0 hB.1 2 rfl rfl d_PI_add_27 ?_
    refine lv_iload_n C0.1 C0.2.1 d_PI_add_30 rfl (lv_at hl 2 rfl) ?_
    refine ast_i (w' := (wW a t n kd em br ii oo np (va_up ea np x) (va_up eb np y) li rn wa wn sT sP ak ap af tt ac ct rp rt rest L)) C0 hB 11 0 rfl rfl (by omega) (by decide) up_nI rfl d_PI_add_31 (fun H locs hB => ?_)
    refine lv_aload_n C0.1 C0.2.1 d_PI_add_32 rfl (lv_at hl 0 rfl) ?_
    refine gf_PI_18 C0 hB.1 2 rfl rfl d_PI_add_33 ?_
    refine lv_aload_n C0.1 C0.2.1 d_PI_add_36 rfl (lv_at hl 0 rfl) ?_
    refine gf_PI_26 C0 hB.1 2 rfl rfl d_PI_add_37 ?_
    refine lv_lload_n C0.1 C0.2.1 d_PI_add_40 rfl (lv_at hl 3 rfl) ?_
    refine ast_l (w' := (wW a t n kd em br ii oo np (va_up ea np x) (va_up eb np y) (va_up li np z) rn wa wn sT sP ak ap af tt ac ct rp rt rest L)) C0 hB 12 2 rfl rfl (by omega) (by decide) up_lN rfl d_PI_add_41 (fun H locs hB => ?_)
    refine lv_aload_n C0.1 C0.2.1 d_PI_add_42 rfl (lv_at hl 0 rfl) ?_
    refine lv_dup C0.1 C0.2.1 d_PI_add_43 rfl ?_
    refine gf_PI_26 C0 hB.1 2 rfl rfl d_PI_add_44 ?_
    refine lv_iconst (v := nI 1) C0.1 C0.2.1 d_PI_add_47 (by decide) ?_
    refine lv_iadd C0.1 C0.2.1 d_PI_add_48 ?_
    refine ti (show (nI np) + (nI 1) = nI (np + 1) from nI_add _ _) ?_
    refine pf_PI_26 (w' := (wW a t n kd em br ii oo (np + 1) (va_up ea np x) (va_up eb np y) (va_up li np z) rn wa wn sT sP ak ap af tt ac ct rp rt rest L)) C0 hB 2 rfl (Nat.le_of_ble_eq_true rfl) rfl rfl rfl d_PI_add_49 (fun H locs hB => ?_)
    refine lv_aload_n C0.1 C0.2.1 d_PI_add_52 rfl (lv_at hl 0 rfl) ?_
    refine gf_PI_26 C0 hB.1 2 rfl rfl d_PI_add_53 ?_
    refine lv_iconst (v := nI 1) C0.1 C0.2.1 d_PI_add_56 (by decide) ?_
    refine lv_isub C0.1 C0.2.1 d_PI_add_57 ?_
    refine ti (show (nI (np + 1)) - (nI 1) = nI np from (pk_sub (by omega) : nI (np + 1) - nI 1 = nI (np + 1 - 1))) ?_
    exact eM_i C0 hr hlk () hB (rfl) (Nat.le_refl _) (Nat.le_refl _) d_PI_add_58
  · exact absurd ((nI_ltI (by omega) (by omega)).mpr hn) c_6
set_option maxHeartbeats 4000000 in
set_option maxRecDepth 100000 in
theorem c_PI_anyEndsAt (v : Nat) (hv : v < 48) (hn : np ≤ 96) (hea : ∀ j, j < np → ea j < 48) (heb : ∀ j, j < np → eb j < 48) : Rd l y_PI_anyEndsAt w_PI_anyEndsAt ({ frames := 0, cells := 0, slots := 0, locals := 0 }) g classes (tyL t) [.ref (a 2), .int (nI v)] (wW a t n kd em br ii oo np ea eb li rn wa wn sT sP ak ap af tt ac ct rp rt rest L) (some (.int (bI (anyN (endB ea eb v) np)))) := by
  refine Rd.of (cc := b_PI_anyEndsAt) (maxL := 3) (ret := (some .boolean)) (own := R_PI) (by decide) rfl rfl (Nat.le_of_ble_eq_true rfl) ?_
  intro p e s m args below meth c C0 hr hlk hP ls hl
  have hl : lv_has ls 3 [(0, .ref (a 2)), (1, .int (nI v))] := hl
  refine lv_iconst (v := nI 0) C0.1 C0.2.1 d_PI_anyEndsAt_0 (by decide) ?_
  refine lv_istore_n (lv' := [(2, .int (nI 0)), (0, .ref (a 2)), (1, .int (nI v))]) C0.1 C0.2.1 d_PI_anyEndsAt_1 rfl hl (by decide) rfl (fun ls hl => ?_)
  refine wlR (σ := Nat) (head := 2) (fun z_ => np - z_) (fun z_ => z_ ≤ np ∧ ∀ i, i < z_ → endB ea eb v i = false) (fun z_ => [(0, .ref (a 2)), (1, .int (nI v)), (2, .int (nI z_))]) ?_ 0 (show 0 ≤ np ∧ ∀ i, i < 0 → endB ea eb v i = false from ⟨Nat.zero_le _, fun i h => absurd h (Nat.not_lt_zero _)⟩) (lv_sub hl [1, 2, 0] rfl)
  rintro j hi ih_2 ls hl
  have hi : j ≤ np ∧ ∀ i, i < j → endB ea eb v i = false := hi
  obtain ⟨hi1, hi2⟩ := hi
  have hl : lv_has ls 3 [(0, .ref (a 2)), (1, .int (nI v)), (2, .int (nI j))] := hl
  refine lv_iload_n C0.1 C0.2.1 d_PI_anyEndsAt_2 rfl (lv_at hl 2 rfl) ?_
  refine lv_aload_n C0.1 C0.2.1 d_PI_anyEndsAt_3 rfl (lv_at hl 0 rfl) ?_
  refine gf_PI_26 C0 hP 2 rfl rfl d_PI_anyEndsAt_4 ?_
  refine lv_icmp_ge (tgt := 38) C0.1 C0.2.1 d_PI_anyEndsAt_7 (by decide) (fun c_7 => ?_) (fun c_7 => ?_)
  · have hj : j = np := by have := (nI_leI (by omega) (by omega)).mp c_7; omega
    subst hj
    refine lv_iconst (v := nI 0) C0.1 C0.2.1 d_PI_anyEndsAt_38 (by decide) ?_
    exact eR_z C0 hr hlk (b := anyN (endB ea eb v) j) (by rw [anyN_f.mpr hi2]; rfl) rfl d_PI_anyEndsAt_39
  · have hj : j < np := (nI_nle' (by omega) (by omega)).mp c_7
    have hx1 := hea j hj
    have hx2 := heb j hj
    refine lv_aload_n C0.1 C0.2.1 d_PI_anyEndsAt_10 rfl (lv_at hl 0 rfl) ?_
    refine gf_PI_9 C0 hP 2 rfl rfl d_PI_anyEndsAt_11 ?_
    refine lv_iload_n C0.1 C0.2.1 d_PI_anyEndsAt_14 rfl (lv_at hl 2 rfl) ?_
    refine ald_i C0 hP 10 0 rfl rfl (by omega) (by decide) d_PI_anyEndsAt_15 ?_
    refine lv_iload_n C0.1 C0.2.1 d_PI_anyEndsAt_16 rfl (lv_at hl 1 rfl) ?_
    refine lv_icmp_eq (tgt := 30) C0.1 C0.2.1 d_PI_anyEndsAt_17 (by decide) (fun c_17 => ?_) (fun c_17 => ?_)
    · refine lv_iconst (v := nI 1) C0.1 C0.2.1 d_PI_anyEndsAt_30 (by decide) ?_
      exact eR_z C0 hr hlk (b := anyN (endB ea eb v) np) (by rw [anyN_t.mpr ⟨j, hj, endB_1 ((nI_eq (by omega) (by omega)).mp c_17)⟩]; rfl) rfl d_PI_anyEndsAt_31
    · refine lv_aload_n C0.1 C0.2.1 d_PI_anyEndsAt_20 rfl (lv_at hl 0 rfl) ?_
      refine gf_PI_15 C0 hP 2 rfl rfl d_PI_anyEndsAt_21 ?_
      refine lv_iload_n C0.1 C0.2.1 d_PI_anyEndsAt_24 rfl (lv_at hl 2 rfl) ?_
      refine ald_i C0 hP 11 0 rfl rfl (by omega) (by decide) d_PI_anyEndsAt_25 ?_
      refine lv_iload_n C0.1 C0.2.1 d_PI_anyEndsAt_26 rfl (lv_at hl 1 rfl) ?_
      refine lv_icmp_ne (tgt := 32) C0.1 C0.2.1 d_PI_anyEndsAt_27 (by decide) (fun c_27 => ?_) (fun c_27 => ?_)
      · refine lv_iinc (v := nI (j + 1)) (lv' := [(2, .int (nI (j + 1))), (0, .ref (a 2)), (1, .int (nI v))]) C0.1 C0.2.1 d_PI_anyEndsAt_32 hl (k := 2) rfl (inc1 _) (by decide) rfl (fun ls hl => ?_)
        refine lv_goto (tgt := 2) C0.1 C0.2.1 d_PI_anyEndsAt_35 (by decide) ?_
        exact ih_2 (j + 1) (show (j + 1) ≤ np ∧ ∀ i, i < (j + 1) → endB ea eb v i = false from ⟨by omega, lt_s hi2 (endB_f (fun q => c_17 (by rw [q])) (fun q => c_27 (by rw [q])))⟩) (show np - (j + 1) < np - j from by omega) ls (lv_sub hl [1, 2, 0] rfl)
      · refine lv_iconst (v := nI 1) C0.1 C0.2.1 d_PI_anyEndsAt_30 (by decide) ?_
        exact eR_z C0 hr hlk (b := anyN (endB ea eb v) np) (by rw [anyN_t.mpr ⟨j, hj, endB_2 ((nI_eq (by omega) (by omega)).mp c_27)⟩]; rfl) rfl d_PI_anyEndsAt_31
set_option maxHeartbeats 4000000 in
set_option maxRecDepth 100000 in
theorem c_PI_anyJoins (x y : Int32) (hn : np ≤ 96) : Rd l y_PI_anyJoins w_PI_anyJoins ({ frames := 0, cells := 0, slots := 0, locals := 0 }) g classes (tyL t) [.ref (a 2), .int x, .int y] (wW a t n kd em br ii oo np ea eb li rn wa wn sT sP ak ap af tt ac ct rp rt rest L) (some (.int (bI (anyN (joinB ea eb x y) np)))) := by
  refine Rd.of (cc := b_PI_anyJoins) (maxL := 6) (ret := (some .boolean)) (own := R_PI) (by decide) rfl rfl (Nat.le_of_ble_eq_true rfl) ?_
  intro p e s m args below meth c C0 hr hlk hP ls hl
  have hl : lv_has ls 6 [(0, .ref (a 2)), (1, .int x), (2, .int y)] := hl
  refine lv_iconst (v := nI 0) C0.1 C0.2.1 d_PI_anyJoins_0 (by decide) ?_
  refine lv_istore_n (lv' := [(3, .int (nI 0)), (0, .ref (a 2)), (1, .int x), (2, .int y)]) C0.1 C0.2.1 d_PI_anyJoins_1 rfl hl (by decide) rfl (fun ls hl => ?_)
  refine wlR (σ := Nat) (head := 2) (fun z_ => np - z_) (fun z_ => z_ ≤ np ∧ ∀ i, i < z_ → joinB ea eb x y i = false) (fun z_ => [(0, .ref (a 2)), (1, .int x), (2, .int y), (3, .int (nI z_))]) ?_ 0 (show 0 ≤ np ∧ ∀ i, i < 0 → joinB ea eb x y i = false from ⟨Nat.zero_le _, fun i h => absurd h (Nat.not_lt_zero _)⟩) (lv_sub hl [1, 2, 3, 0] rfl)
  rintro j hi ih_2 ls hl
  have hi : j ≤ np ∧ ∀ i, i < j → joinB ea eb x y i = false := hi
  obtain ⟨hi1, hi2⟩ := hi
  have hl : lv_has ls 6 [(0, .ref (a 2)), (1, .int x), (2, .int y), (3, .int (nI j))] := hl
  refine lv_iload_n C0.1 C0.2.1 d_PI_anyJoins_2 rfl (lv_at hl 3 rfl) ?_
  refine lv_aload_n C0.1 C0.2.1 d_PI_anyJoins_3 rfl (lv_at hl 0 rfl) ?_
  refine gf_PI_26 C0 hP 2 rfl rfl d_PI_anyJoins_4 ?_
  refine lv_icmp_ge (tgt := 82) C0.1 C0.2.1 d_PI_anyJoins_7 (by decide) (fun c_7 => ?_) (fun c_7 => ?_)
  · have hj : j = np := by have := (nI_leI (by omega) (by omega)).mp c_7; omega
    subst hj
    refine lv_iconst (v := nI 0) C0.1 C0.2.1 d_PI_anyJoins_82 (by decide) ?_
    exact eR_z C0 hr hlk (b := anyN (joinB ea eb x y) j) (by rw [anyN_f.mpr hi2]; rfl) rfl d_PI_anyJoins_83
  · have hj : j < np := (nI_nle' (by omega) (by omega)).mp c_7
    refine wcut (g2 := F0 m 35 ls [.int (bI (decide (nI (ea j) = x) && decide (nI (eb j) = y)))]) ?_ (fun T35 => ?_)
    · refine lv_istore (lv' := [(4, .int (bI (decide (nI (ea j) = x) && decide (nI (eb j) = y)))), (0, .ref (a 2)), (1, .int x), (2, .int y), (3, .int (nI j))]) C0.1 C0.2.1 d_PI_anyJoins_35 hl (by decide) rfl (fun ls hl => ?_)
      refine wcut (g2 := F0 m 62 ls [.int (bI (decide (nI (ea j) = y) && decide (nI (eb j) = x)))]) ?_ (fun T62 => ?_)
      · refine lv_istore (lv' := [(5, .int (bI (decide (nI (ea j) = y) && decide (nI (eb j) = x)))), (4, .int (bI (decide (nI (ea j) = x) && decide (nI (eb j) = y)))), (0, .ref (a 2)), (1, .int x), (2, .int y), (3, .int (nI j))]) C0.1 C0.2.1 d_PI_anyJoins_62 hl (by decide) rfl (fun ls hl => ?_)
        refine lv_iload C0.1 C0.2.1 d_PI_anyJoins_64 (lv_at hl 1 rfl) ?_
        refine lv_if_ne (tgt := 74) C0.1 C0.2.1 d_PI_anyJoins_66 (by decide) (fun c_66 => ?_) (fun c_66 => ?_)
        · refine lv_iconst (v := nI 1) C0.1 C0.2.1 d_PI_anyJoins_74 (by decide) ?_
          exact eR_z C0 hr hlk (b := anyN (joinB ea eb x y) np) (by rw [anyN_t.mpr ⟨j, hj, by unfold joinB; rw [bI_n0.mp c_66]; rfl⟩]; rfl) rfl d_PI_anyJoins_75
        · refine lv_iload C0.1 C0.2.1 d_PI_anyJoins_69 (lv_at hl 0 rfl) ?_
          refine lv_if_eq (tgt := 76) C0.1 C0.2.1 d_PI_anyJoins_71 (by decide) (fun c_71 => ?_) (fun c_71 => ?_)
          · refine lv_iinc (v := nI (j + 1)) (lv' := [(3, .int (nI (j + 1))), (5, .int (bI (decide (nI (ea j) = y) && decide (nI (eb j) = x)))), (4, .int (bI (decide (nI (ea j) = x) && decide (nI (eb j) = y)))), (0, .ref (a 2)), (1, .int x), (2, .int y)]) C0.1 C0.2.1 d_PI_anyJoins_76 hl (k := 5) rfl (inc1 _) (by decide) rfl (fun ls hl => ?_)
            refine lv_goto (tgt := 2) C0.1 C0.2.1 d_PI_anyJoins_79 (by decide) ?_
            exact ih_2 (j + 1) (show (j + 1) ≤ np ∧ ∀ i, i < (j + 1) → joinB ea eb x y i = false from ⟨by omega, lt_s hi2 (by unfold joinB; rw [bI_0.mp c_66, bI_0.mp c_71]; rfl)⟩) (show np - (j + 1) < np - j from by omega) ls (lv_sub hl [3, 4, 5, 0] rfl)
          · refine lv_iconst (v := nI 1) C0.1 C0.2.1 d_PI_anyJoins_74 (by decide) ?_
            exact eR_z C0 hr hlk (b := anyN (joinB ea eb x y) np) (by rw [anyN_t.mpr ⟨j, hj, by unfold joinB; rw [bI_n0.mp c_71, Bool.or_true]⟩]; rfl) rfl d_PI_anyJoins_75
      · refine lv_aload_n C0.1 C0.2.1 d_PI_anyJoins_37 rfl (lv_at hl 1 rfl) ?_
        refine gf_PI_9 C0 hP 2 rfl rfl d_PI_anyJoins_38 ?_
        refine lv_iload_n C0.1 C0.2.1 d_PI_anyJoins_41 rfl (lv_at hl 4 rfl) ?_
        refine ald_i C0 hP 10 0 rfl rfl (by omega) (by decide) d_PI_anyJoins_42 ?_
        refine lv_iload_n C0.1 C0.2.1 d_PI_anyJoins_43 rfl (lv_at hl 3 rfl) ?_
        refine lv_icmp_ne (tgt := 61) C0.1 C0.2.1 d_PI_anyJoins_44 (by decide) (fun c_44 => ?_) (fun c_44 => ?_)
        · refine lv_iconst (v := nI 0) C0.1 C0.2.1 d_PI_anyJoins_61 (by decide) ?_
          exact ti (show nI 0 = bI (decide (nI (ea j) = y) && decide (nI (eb j) = x)) from by rw [decide_eq_false c_44]; rfl) T62
        · refine lv_aload_n C0.1 C0.2.1 d_PI_anyJoins_47 rfl (lv_at hl 1 rfl) ?_
          refine gf_PI_15 C0 hP 2 rfl rfl d_PI_anyJoins_48 ?_
          refine lv_iload_n C0.1 C0.2.1 d_PI_anyJoins_51 rfl (lv_at hl 4 rfl) ?_
          refine ald_i C0 hP 11 0 rfl rfl (by omega) (by decide) d_PI_anyJoins_52 ?_
          refine lv_iload_n C0.1 C0.2.1 d_PI_anyJoins_53 rfl (lv_at hl 2 rfl) ?_
          refine lv_icmp_ne (tgt := 61) C0.1 C0.2.1 d_PI_anyJoins_54 (by decide) (fun c_54 => ?_) (fun c_54 => ?_)
          · refine lv_iconst (v := nI 0) C0.1 C0.2.1 d_PI_anyJoins_61 (by decide) ?_
            exact ti (show nI 0 = bI (decide (nI (ea j) = y) && decide (nI (eb j) = x)) from by rw [decide_eq_false c_54, Bool.and_false]; rfl) T62
          · refine lv_iconst (v := nI 1) C0.1 C0.2.1 d_PI_anyJoins_57 (by decide) ?_
            refine lv_goto (tgt := 62) C0.1 C0.2.1 d_PI_anyJoins_58 (by decide) ?_
            exact ti (show nI 1 = bI (decide (nI (ea j) = y) && decide (nI (eb j) = x)) from by rw [decide_eq_true c_44, decide_eq_true c_54]; rfl) T62
    · refine lv_aload_n C0.1 C0.2.1 d_PI_anyJoins_10 rfl (lv_at hl 0 rfl) ?_
      refine gf_PI_9 C0 hP 2 rfl rfl d_PI_anyJoins_11 ?_
      refine lv_iload_n C0.1 C0.2.1 d_PI_anyJoins_14 rfl (lv_at hl 3 rfl) ?_
      refine ald_i C0 hP 10 0 rfl rfl (by omega) (by decide) d_PI_anyJoins_15 ?_
      refine lv_iload_n C0.1 C0.2.1 d_PI_anyJoins_16 rfl (lv_at hl 1 rfl) ?_
      refine lv_icmp_ne (tgt := 34) C0.1 C0.2.1 d_PI_anyJoins_17 (by decide) (fun c_17 => ?_) (fun c_17 => ?_)
      · refine lv_iconst (v := nI 0) C0.1 C0.2.1 d_PI_anyJoins_34 (by decide) ?_
        exact ti (show nI 0 = bI (decide (nI (ea j) = x) && decide (nI (eb j) = y)) from by rw [decide_eq_false c_17]; rfl) T35
      · refine lv_aload_n C0.1 C0.2.1 d_PI_anyJoins_20 rfl (lv_at hl 0 rfl) ?_
        refine gf_PI_15 C0 hP 2 rfl rfl d_PI_anyJoins_21 ?_
        refine lv_iload_n C0.1 C0.2.1 d_PI_anyJoins_24 rfl (lv_at hl 3 rfl) ?_
        refine ald_i C0 hP 11 0 rfl rfl (by omega) (by decide) d_PI_anyJoins_25 ?_
        refine lv_iload_n C0.1 C0.2.1 d_PI_anyJoins_26 rfl (lv_at hl 2 rfl) ?_
        refine lv_icmp_ne (tgt := 34) C0.1 C0.2.1 d_PI_anyJoins_27 (by decide) (fun c_27 => ?_) (fun c_27 => ?_)
        · refine lv_iconst (v := nI 0) C0.1 C0.2.1 d_PI_anyJoins_34 (by decide) ?_
          exact ti (show nI 0 = bI (decide (nI (ea j) = x) && decide (nI (eb j) = y)) from by rw [decide_eq_false c_27, Bool.and_false]; rfl) T35
        · refine lv_iconst (v := nI 1) C0.1 C0.2.1 d_PI_anyJoins_30 (by decide) ?_
          refine lv_goto (tgt := 35) C0.1 C0.2.1 d_PI_anyJoins_31 (by decide) ?_
          exact ti (show nI 1 = bI (decide (nI (ea j) = x) && decide (nI (eb j) = y)) from by rw [decide_eq_true c_17, decide_eq_true c_27]; rfl) T35
end THINGS
end
section
/-! pure words of the search -/
def shT (kd : Nat → Nat) (br rn : Nat → Bool) (ea eb : Nat → Nat) (k x : Nat) : Bool := br x || (decide (kd x ≠ 0) && anyN (fun p => rn p && endB ea eb x p) k)
theorem shT_0 {kd : Nat → Nat} {br rn : Nat → Bool} {ea eb : Nat → Nat} {x : Nat} : shT kd br rn ea eb 0 x = br x := by
  unfold shT anyN
  rw [Bool.and_false, Bool.or_false]
theorem shT_off {kd : Nat → Nat} {br rn : Nat → Bool} {ea eb : Nat → Nat} {k x : Nat} (h : rn k = false) : shT kd br rn ea eb (k + 1) x = shT kd br rn ea eb k x := by
  unfold shT
  show (br x || (decide (kd x ≠ 0) && (anyN (fun p => rn p && endB ea eb x p) k || (rn k && endB ea eb x k)))) = _
  rw [h, Bool.false_and, Bool.or_false]
theorem shT_on {kd : Nat → Nat} {br rn : Nat → Bool} {ea eb : Nat → Nat} {k x : Nat} (h : rn k = true) : shT kd br rn ea eb (k + 1) x = ((shT kd br rn ea eb k x || decide (x = ea k ∧ kd (ea k) ≠ 0)) || decide (x = eb k ∧ kd (eb k) ≠ 0)) := by
  have e : (decide (kd x ≠ 0) && endB ea eb x k) = (decide (x = ea k ∧ kd (ea k) ≠ 0) || decide (x = eb k ∧ kd (eb k) ≠ 0)) := by
    unfold endB
    by_cases h1 : ea k = x
    · by_cases h0 : kd x ≠ 0
      · rw [decide_eq_true h0, decide_eq_true h1, decide_eq_true (show x = ea k ∧ kd (ea k) ≠ 0 from ⟨h1.symm, by rw [h1]; exact h0⟩)]; rfl
      · rw [decide_eq_false h0, decide_eq_false (show ¬ (x = ea k ∧ kd (ea k) ≠ 0) from fun q => h0 (by rw [q.1]; exact q.2)), decide_eq_false (show ¬ (x = eb k ∧ kd (eb k) ≠ 0) from fun q => h0 (by rw [q.1]; exact q.2))]; rfl
    · rw [decide_eq_false h1, decide_eq_false (show ¬ (x = ea k ∧ kd (ea k) ≠ 0) from fun q => h1 q.1.symm)]
      by_cases h2 : eb k = x
      · by_cases h0 : kd x ≠ 0
        · rw [decide_eq_true h0, decide_eq_true h2, decide_eq_true (show x = eb k ∧ kd (eb k) ≠ 0 from ⟨h2.symm, by rw [h2]; exact h0⟩)]; rfl
        · rw [decide_eq_false h0, decide_eq_false (show ¬ (x = eb k ∧ kd (eb k) ≠ 0) from fun q => h0 (by rw [q.1]; exact q.2))]; rfl
      · rw [decide_eq_false h2, decide_eq_false (show ¬ (x = eb k ∧ kd (eb k) ≠ 0) from fun q => h2 q.1.symm), Bool.or_false, Bool.and_false]
  unfold shT
  show (br x || (decide (kd x ≠ 0) && (anyN (fun p => rn p && endB ea eb x p) k || (rn k && endB ea eb x k)))) = _
  rw [h, Bool.true_and, Bool.and_or_distrib_left, e, Bool.or_assoc, Bool.or_assoc]
/-- an arc from u to v is open, for a search that ends at e -/
def okA (kd : Nat → Nat) (ii oo : Nat → Int32) (sT : Nat → Bool) (e u v : Nat) : Bool := !(sT u || sT v) && (!(decide (kd v = 0) && decide (v ≠ e)) && letB kd ii oo u v)
def valv (kd : Nat → Nat) (v : Nat) : Nat := if kd v = 2 then 1 else 0
/-- the arcs of the pipes below q -/
def Arcs (kd : Nat → Nat) (ii oo : Nat → Int32) (ea eb li : Nat → Nat) (sT sP : Nat → Bool) (e q k : Nat) (ap af tt ac : Nat → Nat) : Prop :=
  k ≤ 2 * q ∧ (∀ j, j < k → ap j < q ∧ sP (ap j) = false ∧ ((af j = ea (ap j) ∧ tt j = eb (ap j)) ∨ (af j = eb (ap j) ∧ tt j = ea (ap j))) ∧ okA kd ii oo sT e (af j) (tt j) = true ∧ ac j = 64 * li (ap j) + valv kd (tt j)) ∧
  (∀ p, p < q → sP p = false → okA kd ii oo sT e (ea p) (eb p) = true → ∃ j, j < k ∧ ap j = p ∧ af j = ea p ∧ tt j = eb p) ∧
  (∀ p, p < q → sP p = false → okA kd ii oo sT e (eb p) (ea p) = true → ∃ j, j < k ∧ ap j = p ∧ af j = eb p ∧ tt j = ea p) ∧
  ∀ i j, i ≤ j → j < k → ap i ≤ ap j
/-- what laying one arc does to the rows -/
def Laid (ok : Bool) (c p u v : Nat) (k : Nat) (ap af tt ac : Nat → Nat) (k' : Nat) (ap' af' tt' ac' : Nat → Nat) : Prop :=
  (ok = true ∧ k' = k + 1 ∧ ap' = va_up ap k p ∧ af' = va_up af k u ∧ tt' = va_up tt k v ∧ ac' = va_up ac k c) ∨ (ok = false ∧ k' = k ∧ ap' = ap ∧ af' = af ∧ tt' = tt ∧ ac' = ac)
/-- with the two directions of pipe q still to come, or one of them -/
theorem Arcs_0 {kd : Nat → Nat} {ii oo : Nat → Int32} {ea eb li : Nat → Nat} {sT sP : Nat → Bool} {e : Nat} {ap af tt ac : Nat → Nat} : Arcs kd ii oo ea eb li sT sP e 0 0 ap af tt ac :=
  ⟨Nat.le_refl _, fun j h => absurd h (Nat.not_lt_zero _), fun p h => absurd h (Nat.not_lt_zero _), fun p h => absurd h (Nat.not_lt_zero _), fun i j _ h => absurd h (Nat.not_lt_zero _)⟩
theorem Arcs_shut {kd : Nat → Nat} {ii oo : Nat → Int32} {ea eb li : Nat → Nat} {sT sP : Nat → Bool} {e q k : Nat} {ap af tt ac : Nat → Nat} (h : Arcs kd ii oo ea eb li sT sP e q k ap af tt ac) (hs : sP q = true) : Arcs kd ii oo ea eb li sT sP e (q + 1) k ap af tt ac := by
  obtain ⟨h1, h2, h3, h4, h5⟩ := h
  refine ⟨by omega, fun j hj => ?_, fun p hp hn ho => ?_, fun p hp hn ho => ?_, h5⟩
  · have := h2 j hj
    exact ⟨by omega, this.2⟩
  · rcases Nat.lt_succ_iff_lt_or_eq.mp hp with a | a
    · exact h3 p a hn ho
    · rw [a, hs] at hn; cases hn
  · rcases Nat.lt_succ_iff_lt_or_eq.mp hp with a | a
    · exact h4 p a hn ho
    · rw [a, hs] at hn; cases hn
theorem Arcs_lay {kd : Nat → Nat} {ii oo : Nat → Int32} {ea eb li : Nat → Nat} {sT sP : Nat → Bool} {e q k : Nat} {ap af tt ac : Nat → Nat} {k1 : Nat} {ap1 af1 tt1 ac1 : Nat → Nat} {k2 : Nat} {ap2 af2 tt2 ac2 : Nat → Nat} (h : Arcs kd ii oo ea eb li sT sP e q k ap af tt ac) (hs : sP q = false)
    (hl : Laid (okA kd ii oo sT e (ea q) (eb q)) (64 * li q + valv kd (eb q)) q (ea q) (eb q) k ap af tt ac k1 ap1 af1 tt1 ac1) (hm : Laid (okA kd ii oo sT e (eb q) (ea q)) (64 * li q + valv kd (ea q)) q (eb q) (ea q) k1 ap1 af1 tt1 ac1 k2 ap2 af2 tt2 ac2) : Arcs kd ii oo ea eb li sT sP e (q + 1) k2 ap2 af2 tt2 ac2 := by
  -- one direction
  have one : ∀ (u v k k' : Nat) (ap af tt ac ap' af' tt' ac' : Nat → Nat), (u = ea q ∧ v = eb q ∨ u = eb q ∧ v = ea q) →
      (∀ j, j < k → ap j < q + 1 ∧ sP (ap j) = false ∧ ((af j = ea (ap j) ∧ tt j = eb (ap j)) ∨ (af j = eb (ap j) ∧ tt j = ea (ap j))) ∧ okA kd ii oo sT e (af j) (tt j) = true ∧ ac j = 64 * li (ap j) + valv kd (tt j)) →
      (∀ i j, i ≤ j → j < k → ap i ≤ ap j) → Laid (okA kd ii oo sT e u v) (64 * li q + valv kd v) q u v k ap af tt ac k' ap' af' tt' ac' →
      k ≤ k' ∧ k' ≤ k + 1 ∧ (∀ j, j < k' → ap' j < q + 1 ∧ sP (ap' j) = false ∧ ((af' j = ea (ap' j) ∧ tt' j = eb (ap' j)) ∨ (af' j = eb (ap' j) ∧ tt' j = ea (ap' j))) ∧ okA kd ii oo sT e (af' j) (tt' j) = true ∧ ac' j = 64 * li (ap' j) + valv kd (tt' j)) ∧
      (∀ i j, i ≤ j → j < k' → ap' i ≤ ap' j) ∧ (∀ j, j < k → ap' j = ap j ∧ af' j = af j ∧ tt' j = tt j) ∧ (okA kd ii oo sT e u v = true → ∃ j, j < k' ∧ ap' j = q ∧ af' j = u ∧ tt' j = v) := by
    intro u v k k' ap af tt ac ap' af' tt' ac' huv g1 g2 g
    rcases g with ⟨ho, rfl, rfl, rfl, rfl, rfl⟩ | ⟨ho, rfl, rfl, rfl, rfl, rfl⟩
    · refine ⟨by omega, by omega, fun j hj => ?_, fun i j hij hj => ?_, fun j hj => ?_, fun _ => ⟨k, by omega, va_up_self _ _ _, va_up_self _ _ _, va_up_self _ _ _⟩⟩
      · by_cases e1 : j = k
        · subst e1
          simp only [va_up_self]
          refine ⟨by omega, hs, ?_, ho, trivial⟩
          rcases huv with ⟨a, b⟩ | ⟨a, b⟩
          · exact Or.inl ⟨a, b⟩
          · exact Or.inr ⟨a, b⟩
        · simp only [va_up_ne _ _ e1]
          exact g1 j (by omega)
      · by_cases e1 : j = k
        · subst e1
          rw [va_up_self]
          by_cases e2 : i = j
          · subst e2
            rw [va_up_self]
            exact Nat.le_refl _
          · rw [va_up_ne _ _ e2]
            have := (g1 i (by omega)).1
            omega
        · rw [va_up_ne _ _ e1, va_up_ne _ _ (show i ≠ k by omega)]
          exact g2 i j hij (by omega)
      · have e1 : j ≠ k := by omega
        exact ⟨va_up_ne _ _ e1, va_up_ne _ _ e1, va_up_ne _ _ e1⟩
    · exact ⟨Nat.le_refl _, by omega, g1, g2, fun j _ => ⟨rfl, rfl, rfl⟩, fun q1 => by rw [ho] at q1; cases q1⟩
  obtain ⟨h1, h2, h3, h4, h5⟩ := h
  obtain ⟨a0, a1, a2, a3, a4, a5⟩ := one (ea q) (eb q) k k1 ap af tt ac ap1 af1 tt1 ac1 (Or.inl ⟨rfl, rfl⟩) (fun j hj => ⟨by have := (h2 j hj).1; omega, (h2 j hj).2⟩) h5 hl
  obtain ⟨b0, b1, b2, b3, b4, b5⟩ := one (eb q) (ea q) k1 k2 ap1 af1 tt1 ac1 ap2 af2 tt2 ac2 (Or.inr ⟨rfl, rfl⟩) a2 a3 hm
  refine ⟨by omega, b2, fun p hp hn ho => ?_, fun p hp hn ho => ?_, b3⟩
  · rcases Nat.lt_succ_iff_lt_or_eq.mp hp with a | a
    · obtain ⟨j, c1, c2, c3, c4⟩ := h3 p a hn ho
      have d1 := a4 j c1
      have d2 := b4 j (by omega)
      exact ⟨j, by omega, by rw [d2.1, d1.1, c2], by rw [d2.2.1, d1.2.1, c3], by rw [d2.2.2, d1.2.2, c4]⟩
    · subst a
      obtain ⟨j, c1, c2, c3, c4⟩ := a5 ho
      have d2 := b4 j c1
      exact ⟨j, by omega, by rw [d2.1, c2], by rw [d2.2.1, c3], by rw [d2.2.2, c4]⟩
  · rcases Nat.lt_succ_iff_lt_or_eq.mp hp with a | a
    · obtain ⟨j, c1, c2, c3, c4⟩ := h4 p a hn ho
      have d1 := a4 j c1
      have d2 := b4 j (by omega)
      exact ⟨j, by omega, by rw [d2.1, d1.1, c2], by rw [d2.2.1, d1.2.1, c3], by rw [d2.2.2, d1.2.2, c4]⟩
    · subst a
      exact b5 ho
theorem su_0 {kd : Nat → Nat} {sT : Nat → Bool} {v x : Nat} (h : kd v = 0) : sT x = (sT x || decide (x = v ∧ kd v ≠ 0)) := by
  rw [decide_eq_false (show ¬ (x = v ∧ kd v ≠ 0) from fun q => q.2 h), Bool.or_false]
theorem su_1 {kd : Nat → Nat} {sT : Nat → Bool} {v x : Nat} (h : ¬ kd v = 0) : va_up sT v true x = (sT x || decide (x = v ∧ kd v ≠ 0)) := by
  by_cases e : x = v
  · subst e
    rw [va_up_self, decide_eq_true (show x = x ∧ kd x ≠ 0 from ⟨rfl, h⟩), Bool.or_true]
  · rw [va_up_ne _ _ e, decide_eq_false (show ¬ (x = v ∧ kd v ≠ 0) from fun q => e q.1), Bool.or_false]
theorem ok_1 {kd : Nat → Nat} {ii oo : Nat → Int32} {sT : Nat → Bool} {e u v : Nat} (h : (sT u || sT v) = true) : okA kd ii oo sT e u v = false := by
  unfold okA; rw [h]; rfl
theorem ok_2 {kd : Nat → Nat} {ii oo : Nat → Int32} {sT : Nat → Bool} {e u v : Nat} (h : (decide (kd v = 0) && decide (v ≠ e)) = true) : okA kd ii oo sT e u v = false := by
  unfold okA; rw [h]; simp
theorem ok_3 {kd : Nat → Nat} {ii oo : Nat → Int32} {sT : Nat → Bool} {e u v : Nat} (h : letB kd ii oo u v = false) : okA kd ii oo sT e u v = false := by
  unfold okA; rw [h]; simp
theorem ok_4 {kd : Nat → Nat} {ii oo : Nat → Int32} {sT : Nat → Bool} {e u v : Nat} (h1 : (sT u || sT v) = false) (h2 : (decide (kd v = 0) && decide (v ≠ e)) = false) (h : letB kd ii oo u v = true) : okA kd ii oo sT e u v = true := by
  unfold okA; rw [h, h1, h2]; rfl
theorem Laid_le {ok : Bool} {c p u v k : Nat} {ap af tt ac : Nat → Nat} {k' : Nat} {ap' af' tt' ac' : Nat → Nat} (h : Laid ok c p u v k ap af tt ac k' ap' af' tt' ac') : k' ≤ k + 1 := by
  rcases h with ⟨-, h, -⟩ | ⟨-, h, -⟩ <;> omega
end
section
section SEARCH1
variable {l : Launch} {g : va_G} {t : Nat → ClassId} {a : Nat → Nat} {n : Nat} {kd : Nat → Nat} {em : Nat → Bool} {br : Nat → Bool} {ii : Nat → Int32} {oo : Nat → Int32} {np : Nat} {ea : Nat → Nat} {eb : Nat → Nat} {li : Nat → Nat} {rn : Nat → Bool} {wa : Nat → Option Nat} {wn : Nat} {sT : Nat → Bool} {sP : Nat → Bool} {ak : Nat} {ap : Nat → Nat} {af : Nat → Nat} {tt : Nat → Nat} {ac : Nat → Nat} {ct : Nat → Nat} {rp : Nat → Nat} {rt : Nat → Nat} {rest : va_W} {L : List Wy}
set_option maxHeartbeats 4000000 in
set_option maxRecDepth 100000 in
theorem c_SE_shutPipe (p0 : Nat) (hp0 : p0 < np) (hn : np ≤ 96) : Mt l y_SE_shutPipe w_SE_shutPipe ({ frames := 1, cells := 0, slots := 0, locals := 21 }) g classes (tyL t) [.ref (a 3), .int (nI p0)] (wW a t n kd em br ii oo np ea eb li rn wa wn sT sP ak ap af tt ac ct rp rt rest L) (S := Unit) (fun v _ => v = none) (fun _ => (wW a t n kd em br ii oo np ea eb li rn wa wn sT (va_up sP p0 true) ak ap af tt ac ct rp rt rest L)) 0 0 := by
  refine Mt.of (cc := b_SE_shutPipe) (maxL := 2) (ret := none) (own := R_SE) (by decide) rfl rfl (Nat.le_of_ble_eq_true rfl) ?_
  intro p e s m args below meth c C0 hr hlk hin A hA hB ls hl
  have hl : lv_has ls 2 [(0, .ref (a 3)), (1, .int (nI p0))] := hl
  refine lv_aload_n C0.1 C0.2.1 d_SE_shutPipe_0 rfl (lv_at hl 0 rfl) ?_
  refine gf_SE_51 C0 hB.1 3 rfl rfl d_SE_shutPipe_1 ?_
  refine lv_iload_n C0.1 C0.2.1 d_SE_shutPipe_4 rfl (lv_at hl 1 rfl) ?_
  refine cR (As := [.int (nI p0)]) (rest := []) C0 (c_PI_has (nI p0) hn) (q_SE_79 C0.2.2.2.2.1 rfl rfl ⟨Nat.le_of_ble_eq_true rfl, Nat.le_of_ble_eq_true rfl⟩) (ci := 2) (q0 := 2) rfl rfl rfl hB.1 hl.1 rfl rfl (Nat.le_of_ble_eq_true rfl) d_SE_shutPipe_5 ⟨Nat.zero_le _, Nat.zero_le _⟩ ?_
  refine W.eq (g2 := F0 m 8 ls [.int (bI (hasB np (nI p0)))]) rfl ?_
  refine lv_if_eq (tgt := 18) C0.1 C0.2.1 d_SE_shutPipe_8 (by decide) (fun c_8 => ?_) (fun c_8 => ?_)
  · exact absurd (bI_0.mp c_8) (by rw [hasB_nI (by omega), decide_eq_true hp0]; decide)
  · refine lv_aload_n C0.1 C0.2.1 d_SE_shutPipe_11 rfl (lv_at hl 0 rfl) ?_
    refine gf_SE_17 C0 hB.1 3 rfl rfl d_SE_shutPipe_12 ?_
    refine lv_iload_n C0.1 C0.2.1 d_SE_shutPipe_15 rfl (lv_at hl 1 rfl) ?_
    refine lv_iconst (v := bI true) C0.1 C0.2.1 d_SE_shutPipe_16 (by decide) ?_
    refine ast_z (w' := (wW a t n kd em br ii oo np ea eb li rn wa wn sT (va_up sP p0 true) ak ap af tt ac ct rp rt rest L)) C0 hB 15 1 rfl rfl (by omega) (by decide) up_bI rfl d_SE_shutPipe_17 (fun H locs hB => ?_)
    exact eM_v C0 hr hlk () hB (rfl) (Nat.le_refl _) (Nat.le_refl _) d_SE_shutPipe_18
set_option maxHeartbeats 4000000 in
set_option maxRecDepth 100000 in
theorem c_SE_shutUnlessTank (v0 : Nat) (hv0 : v0 < n) (hn : n ≤ 48) (hk : ∀ j, kd j < 3) : Mt l y_SE_shutUnlessTank w_SE_shutUnlessTank ({ frames := 1, cells := 0, slots := 0, locals := 21 }) g classes (tyL t) [.ref (a 3), .int (nI v0)] (wW a t n kd em br ii oo np ea eb li rn wa wn sT sP ak ap af tt ac ct rp rt rest L) (S := Nat → Bool) (fun v f => v = none ∧ ∀ x, f x = (sT x || decide (x = v0 ∧ kd v0 ≠ 0))) (fun f => (wW a t n kd em br ii oo np ea eb li rn wa wn f sP ak ap af tt ac ct rp rt rest L)) 0 0 := by
  refine Mt.of (cc := b_SE_shutUnlessTank) (maxL := 2) (ret := none) (own := R_SE) (by decide) rfl rfl (Nat.le_of_ble_eq_true rfl) ?_
  intro p e s m args below meth c C0 hr hlk hin A hA hB ls hl
  have hl : lv_has ls 2 [(0, .ref (a 3)), (1, .int (nI v0))] := hl
  refine lv_aload_n C0.1 C0.2.1 d_SE_shutUnlessTank_0 rfl (lv_at hl 0 rfl) ?_
  refine gf_SE_47 C0 hB.1 3 rfl rfl d_SE_shutUnlessTank_1 ?_
  refine lv_iload_n C0.1 C0.2.1 d_SE_shutUnlessTank_4 rfl (lv_at hl 1 rfl) ?_
  refine cR (As := [.int (nI v0)]) (rest := []) C0 (c_TH_has (nI v0) hn) (q_SE_92 C0.2.2.2.2.1 rfl rfl ⟨Nat.le_of_ble_eq_true rfl, Nat.le_of_ble_eq_true rfl⟩) (ci := 1) (q0 := 1) rfl rfl rfl hB.1 hl.1 rfl rfl (Nat.le_of_ble_eq_true rfl) d_SE_shutUnlessTank_5 ⟨Nat.zero_le _, Nat.zero_le _⟩ ?_
  refine W.eq (g2 := F0 m 8 ls [.int (bI (hasB n (nI v0)))]) rfl ?_
  refine lv_if_eq (tgt := 30) C0.1 C0.2.1 d_SE_shutUnlessTank_8 (by decide) (fun c_8 => ?_) (fun c_8 => ?_)
  · exact absurd (bI_0.mp c_8) (by rw [hasB_nI (by omega), decide_eq_true hv0]; decide)
  · refine lv_aload_n C0.1 C0.2.1 d_SE_shutUnlessTank_11 rfl (lv_at hl 0 rfl) ?_
    refine gf_SE_47 C0 hB.1 3 rfl rfl d_SE_shutUnlessTank_12 ?_
    refine gf_SE_93 C0 hB.1 1 rfl rfl d_SE_shutUnlessTank_15 ?_
    refine lv_iload_n C0.1 C0.2.1 d_SE_shutUnlessTank_18 rfl (lv_at hl 1 rfl) ?_
    refine ald_i C0 hB.1 5 0 rfl rfl (by omega) (by decide) d_SE_shutUnlessTank_19 ?_
    refine lv_if_eq (tgt := 30) C0.1 C0.2.1 d_SE_shutUnlessTank_20 (by decide) (fun c_20 => ?_) (fun c_20 => ?_)
    · exact eM_v C0 hr hlk sT hB ⟨rfl, fun x => su_0 (nI_eq (by have := hk v0; omega) (by decide) |>.mp c_20)⟩ (Nat.le_refl _) (Nat.le_refl _) d_SE_shutUnlessTank_30
    · refine lv_aload_n C0.1 C0.2.1 d_SE_shutUnlessTank_23 rfl (lv_at hl 0 rfl) ?_
      refine gf_SE_11 C0 hB.1 3 rfl rfl d_SE_shutUnlessTank_24 ?_
      refine lv_iload_n C0.1 C0.2.1 d_SE_shutUnlessTank_27 rfl (lv_at hl 1 rfl) ?_
      refine lv_iconst (v := bI true) C0.1 C0.2.1 d_SE_shutUnlessTank_28 (by decide) ?_
      refine ast_z (w' := (wW a t n kd em br ii oo np ea eb li rn wa wn (va_up sT v0 true) sP ak ap af tt ac ct rp rt rest L)) C0 hB 14 1 rfl rfl (by omega) (by decide) up_bI rfl d_SE_shutUnlessTank_29 (fun H locs hB => ?_)
      exact eM_v C0 hr hlk (va_up sT v0 true) hB ⟨rfl, fun x => su_1 (fun q => c_20 (by rw [q]; rfl))⟩ (Nat.le_refl _) (Nat.le_refl _) d_SE_shutUnlessTank_30
set_option maxHeartbeats 4000000 in
set_option maxRecDepth 100000 in
theorem c_SE_openAll (hn : n ≤ 48) (hnp : np ≤ 96) (hk : ∀ j, kd j < 3) (hea : ∀ j, j < np → ea j < n) (heb : ∀ j, j < np → eb j < n) : Mt l y_SE_openAll w_SE_openAll ({ frames := 2, cells := 0, slots := 0, locals := 42 }) g classes (tyL t) [.ref (a 3)] (wW a t n kd em br ii oo np ea eb li rn wa wn sT sP ak ap af tt ac ct rp rt rest L) (S := (Nat → Bool) × (Nat → Bool)) (fun v q => v = none ∧ (∀ x, x < n → q.1 x = shT kd br rn ea eb np x) ∧ ∀ p, p < np → q.2 p = rn p) (fun q => (wW a t n kd em br ii oo np ea eb li rn wa wn q.1 q.2 ak ap af tt ac ct rp rt rest L)) 0 0 := by
  refine Mt.of (cc := b_SE_openAll) (maxL := 2) (ret := none) (own := R_SE) (by decide) rfl rfl (Nat.le_of_ble_eq_true rfl) ?_
  intro p e s m args below meth c C0 hr hlk hin A hA hB ls hl
  have hl : lv_has ls 2 [(0, .ref (a 3))] := hl
  refine lv_iconst (v := nI 0) C0.1 C0.2.1 d_SE_openAll_0 (by decide) ?_
  refine lv_istore_n (lv' := [(1, .int (nI 0)), (0, .ref (a 3))]) C0.1 C0.2.1 d_SE_openAll_1 rfl hl (by decide) rfl (fun ls hl => ?_)
  refine wlM (σ := Nat × (Nat → Bool)) (head := 2) (fun z_ => n - z_.1) (fun z_ => z_.1 ≤ n ∧ ∀ x, x < z_.1 → z_.2 x = br x) (fun z_ => (wW a t n kd em br ii oo np ea eb li rn wa wn z_.2 sP ak ap af tt ac ct rp rt rest L)) (fun z_ => [(0, .ref (a 3)), (1, .int (nI z_.1))]) ?_ (0, sT) (show 0 ≤ n ∧ ∀ x, x < 0 → sT x = br x from ⟨Nat.zero_le _, fun i h => absurd h (Nat.not_lt_zero _)⟩) hB (lv_sub hl [1, 0] rfl)
  rintro ⟨j, f⟩ hi ih_2 H locs ls hB hl
  have hi : j ≤ n ∧ ∀ x, x < j → f x = br x := hi
  obtain ⟨hi1, hi2⟩ := hi
  have hl : lv_has ls 2 [(0, .ref (a 3)), (1, .int (nI j))] := hl
  have hB : wB g classes A s.heap (wW a t n kd em br ii oo np ea eb li rn wa wn f sP ak ap af tt ac ct rp rt rest L) H locs := hB
  refine lv_iload_n C0.1 C0.2.1 d_SE_openAll_2 rfl (lv_at hl 1 rfl) ?_
  refine lv_aload_n C0.1 C0.2.1 d_SE_openAll_3 rfl (lv_at hl 0 rfl) ?_
  refine gf_SE_47 C0 hB.1 3 rfl rfl d_SE_openAll_4 ?_
  refine gf_SE_55 C0 hB.1 1 rfl rfl d_SE_openAll_7 ?_
  refine lv_icmp_ge (tgt := 34) C0.1 C0.2.1 d_SE_openAll_10 (by decide) (fun c_10 => ?_) (fun c_10 => ?_)
  · have hjn : j = n := by have := (nI_leI (by omega) (by omega)).mp c_10; omega
    have hi2 : ∀ x, x < n → f x = br x := fun x hx => hi2 x (by omega)
    refine lv_iconst (v := nI 0) C0.1 C0.2.1 d_SE_openAll_34 (by decide) ?_
    refine lv_istore_n (lv' := [(1, .int (nI 0)), (0, .ref (a 3))]) C0.1 C0.2.1 d_SE_openAll_35 rfl hl (by decide) rfl (fun ls hl => ?_)
    refine wlM (σ := Nat × (Nat → Bool) × (Nat → Bool)) (head := 36) (fun z_ => np - z_.1) (fun z_ => z_.1 ≤ np ∧ (∀ x, x < n → z_.2.1 x = shT kd br rn ea eb z_.1 x) ∧ ∀ q, q < z_.1 → z_.2.2 q = rn q) (fun z_ => (wW a t n kd em br ii oo np ea eb li rn wa wn z_.2.1 z_.2.2 ak ap af tt ac ct rp rt rest L)) (fun z_ => [(0, .ref (a 3)), (1, .int (nI z_.1))]) ?_ (0, f, sP) (show 0 ≤ np ∧ (∀ x, x < n → f x = shT kd br rn ea eb 0 x) ∧ ∀ q, q < 0 → sP q = rn q from ⟨Nat.zero_le _, fun x hx => by rw [shT_0]; exact hi2 x hx, fun i h => absurd h (Nat.not_lt_zero _)⟩) hB (lv_sub hl [1, 0] rfl)
    rintro ⟨k, f, h⟩ hi ih_36 H locs ls hB hl
    have hi : k ≤ np ∧ (∀ x, x < n → f x = shT kd br rn ea eb k x) ∧ ∀ q, q < k → h q = rn q := hi
    obtain ⟨hj1, hj2, hj3⟩ := hi
    have hl : lv_has ls 2 [(0, .ref (a 3)), (1, .int (nI k))] := hl
    have hB : wB g classes A s.heap (wW a t n kd em br ii oo np ea eb li rn wa wn f h ak ap af tt ac ct rp rt rest L) H locs := hB
    refine lv_iload_n C0.1 C0.2.1 d_SE_openAll_36 rfl (lv_at hl 1 rfl) ?_
    refine lv_aload_n C0.1 C0.2.1 d_SE_openAll_37 rfl (lv_at hl 0 rfl) ?_
    refine gf_SE_51 C0 hB.1 3 rfl rfl d_SE_openAll_38 ?_
    refine gf_SE_63 C0 hB.1 2 rfl rfl d_SE_openAll_41 ?_
    refine lv_icmp_ge (tgt := 106) C0.1 C0.2.1 d_SE_openAll_44 (by decide) (fun c_44 => ?_) (fun c_44 => ?_)
    · have hkn : k = np := by have := (nI_leI (by omega) (by omega)).mp c_44; omega
      have hj2 : ∀ x, x < n → f x = shT kd br rn ea eb np x := fun x hx => by rw [← hkn]; exact hj2 x hx
      have hj3 : ∀ q, q < np → h q = rn q := fun q hq => hj3 q (by omega)
      exact eM_v C0 hr hlk (f, h) hB (⟨rfl, hj2, hj3⟩) (Nat.le_refl _) (Nat.le_refl _) d_SE_openAll_106
    · have hk1 : k < np := (nI_nle' (by omega) (by omega)).mp c_44
      have hxa := hea k hk1
      have hxb := heb k hk1
      refine lv_aload_n C0.1 C0.2.1 d_SE_openAll_47 rfl (lv_at hl 0 rfl) ?_
      refine gf_SE_17 C0 hB.1 3 rfl rfl d_SE_openAll_48 ?_
      refine lv_iload_n C0.1 C0.2.1 d_SE_openAll_51 rfl (lv_at hl 1 rfl) ?_
      refine lv_aload_n C0.1 C0.2.1 d_SE_openAll_52 rfl (lv_at hl 0 rfl) ?_
      refine gf_SE_51 C0 hB.1 3 rfl rfl d_SE_openAll_53 ?_
      refine gf_SE_66 C0 hB.1 2 rfl rfl d_SE_openAll_56 ?_
      refine lv_iload_n C0.1 C0.2.1 d_SE_openAll_59 rfl (lv_at hl 1 rfl) ?_
      refine ald_z C0 hB.1 13 1 rfl rfl (by omega) (by decide) d_SE_openAll_60 ?_
      refine ast_z (w' := (wW a t n kd em br ii oo np ea eb li rn wa wn f (va_up h k (rn k)) ak ap af tt ac ct rp rt rest L)) C0 hB 15 1 rfl rfl (by omega) (by decide) up_bI rfl d_SE_openAll_61 (fun H locs hB => ?_)
      refine lv_aload_n C0.1 C0.2.1 d_SE_openAll_62 rfl (lv_at hl 0 rfl) ?_
      refine gf_SE_51 C0 hB.1 3 rfl rfl d_SE_openAll_63 ?_
      refine gf_SE_66 C0 hB.1 2 rfl rfl d_SE_openAll_66 ?_
      refine lv_iload_n C0.1 C0.2.1 d_SE_openAll_69 rfl (lv_at hl 1 rfl) ?_
      refine ald_z C0 hB.1 13 1 rfl rfl (by omega) (by decide) d_SE_openAll_70 ?_
      refine lv_if_eq (tgt := 100) C0.1 C0.2.1 d_SE_openAll_71 (by decide) (fun c_71 => ?_) (fun c_71 => ?_)
      · have c_71 := bI_0.mp c_71
        refine lv_iinc (v := nI (k + 1)) (lv' := [(1, .int (nI (k + 1))), (0, .ref (a 3))]) C0.1 C0.2.1 d_SE_openAll_100 hl (k := 1) rfl (inc1 _) (by decide) rfl (fun ls hl => ?_)
        refine lv_goto (tgt := 36) C0.1 C0.2.1 d_SE_openAll_103 (by decide) ?_
        exact ih_36 ((k + 1), f, (va_up h k (rn k))) (show (k + 1) ≤ np ∧ (∀ x, x < n → f x = shT kd br rn ea eb (k + 1) x) ∧ ∀ q, q < (k + 1) → (va_up h k (rn k)) q = rn q from ⟨by omega, fun x hx => by rw [shT_off c_71]; exact hj2 x hx, lt_s (fun x hx => by rw [va_up_ne _ _ (show x ≠ k by omega)]; exact hj3 x hx) (va_up_self _ _ _)⟩) (show np - (k + 1) < np - k from by show np - (k + 1) < np - k; omega) H locs ls hB (lv_sub hl [1, 0] rfl)
      · have c_71 := bI_n0.mp c_71
        refine lv_aload_n C0.1 C0.2.1 d_SE_openAll_74 rfl (lv_at hl 0 rfl) ?_
        refine lv_aload_n C0.1 C0.2.1 d_SE_openAll_75 rfl (lv_at hl 0 rfl) ?_
        refine gf_SE_51 C0 hB.1 3 rfl rfl d_SE_openAll_76 ?_
        refine gf_SE_69 C0 hB.1 2 rfl rfl d_SE_openAll_79 ?_
        refine lv_iload_n C0.1 C0.2.1 d_SE_openAll_82 rfl (lv_at hl 1 rfl) ?_
        refine ald_i C0 hB.1 10 0 rfl rfl (by omega) (by decide) d_SE_openAll_83 ?_
        refine cM (As := [.int (nI (ea k))]) (rest := []) C0 (c_SE_shutUnlessTank (ea k) (hea k hk1) hn hk) (q_SE_72 C0.2.2.2.2.1 rfl rfl ⟨Nat.le_of_ble_eq_true rfl, Nat.le_of_ble_eq_true rfl⟩) (ci := 3) (q0 := 3) rfl rfl rfl hB hl.1 rfl rfl (Nat.le_of_ble_eq_true rfl) d_SE_openAll_84 ⟨Nat.zero_le _, Nat.zero_le _⟩ (fun v_84 f1 H locs hp_84 hB => ?_)
        obtain ⟨rfl, g1⟩ := hp_84
        have hB : wB g classes A s.heap (wW a t n kd em br ii oo np ea eb li rn wa wn f1 (va_up h k (rn k)) ak ap af tt ac ct rp rt rest L) H locs := hB
        refine W.eq (g2 := F0 m 87 ls []) rfl ?_
        refine lv_aload_n C0.1 C0.2.1 d_SE_openAll_87 rfl (lv_at hl 0 rfl) ?_
        refine lv_aload_n C0.1 C0.2.1 d_SE_openAll_88 rfl (lv_at hl 0 rfl) ?_
        refine gf_SE_51 C0 hB.1 3 rfl rfl d_SE_openAll_89 ?_
        refine gf_SE_76 C0 hB.1 2 rfl rfl d_SE_openAll_92 ?_
        refine lv_iload_n C0.1 C0.2.1 d_SE_openAll_95 rfl (lv_at hl 1 rfl) ?_
        refine ald_i C0 hB.1 11 0 rfl rfl (by omega) (by decide) d_SE_openAll_96 ?_
        refine cM (As := [.int (nI (eb k))]) (rest := []) C0 (c_SE_shutUnlessTank (eb k) (heb k hk1) hn hk) (q_SE_72 C0.2.2.2.2.1 rfl rfl ⟨Nat.le_of_ble_eq_true rfl, Nat.le_of_ble_eq_true rfl⟩) (ci := 3) (q0 := 3) rfl rfl rfl hB hl.1 rfl rfl (Nat.le_of_ble_eq_true rfl) d_SE_openAll_97 ⟨Nat.zero_le _, Nat.zero_le _⟩ (fun v_97 f2 H locs hp_97 hB => ?_)
        obtain ⟨rfl, g2⟩ := hp_97
        have hB : wB g classes A s.heap (wW a t n kd em br ii oo np ea eb li rn wa wn f2 (va_up h k (rn k)) ak ap af tt ac ct rp rt rest L) H locs := hB
        refine W.eq (g2 := F0 m 100 ls []) rfl ?_
        refine lv_iinc (v := nI (k + 1)) (lv' := [(1, .int (nI (k + 1))), (0, .ref (a 3))]) C0.1 C0.2.1 d_SE_openAll_100 hl (k := 1) rfl (inc1 _) (by decide) rfl (fun ls hl => ?_)
        refine lv_goto (tgt := 36) C0.1 C0.2.1 d_SE_openAll_103 (by decide) ?_
        exact ih_36 ((k + 1), f2, (va_up h k (rn k))) (show (k + 1) ≤ np ∧ (∀ x, x < n → f2 x = shT kd br rn ea eb (k + 1) x) ∧ ∀ q, q < (k + 1) → (va_up h k (rn k)) q = rn q from ⟨by omega, fun x hx => by rw [shT_on c_71, ← hj2 x hx, g2 x, g1 x], lt_s (fun x hx => by rw [va_up_ne _ _ (show x ≠ k by omega)]; exact hj3 x hx) (va_up_self _ _ _)⟩) (show np - (k + 1) < np - k from by show np - (k + 1) < np - k; omega) H locs ls hB (lv_sub hl [1, 0] rfl)
  · have hjn : j < n := (nI_nle' (by omega) (by omega)).mp c_10
    refine lv_aload_n C0.1 C0.2.1 d_SE_openAll_13 rfl (lv_at hl 0 rfl) ?_
    refine gf_SE_11 C0 hB.1 3 rfl rfl d_SE_openAll_14 ?_
    refine lv_iload_n C0.1 C0.2.1 d_SE_openAll_17 rfl (lv_at hl 1 rfl) ?_
    refine lv_aload_n C0.1 C0.2.1 d_SE_openAll_18 rfl (lv_at hl 0 rfl) ?_
    refine gf_SE_47 C0 hB.1 3 rfl rfl d_SE_openAll_19 ?_
    refine gf_SE_60 C0 hB.1 1 rfl rfl d_SE_openAll_22 ?_
    refine lv_iload_n C0.1 C0.2.1 d_SE_openAll_25 rfl (lv_at hl 1 rfl) ?_
    refine ald_z C0 hB.1 7 1 rfl rfl (by omega) (by decide) d_SE_openAll_26 ?_
    refine ast_z (w' := (wW a t n kd em br ii oo np ea eb li rn wa wn (va_up f j (br j)) sP ak ap af tt ac ct rp rt rest L)) C0 hB 14 1 rfl rfl (by omega) (by decide) up_bI rfl d_SE_openAll_27 (fun H locs hB => ?_)
    refine lv_iinc (v := nI (j + 1)) (lv' := [(1, .int (nI (j + 1))), (0, .ref (a 3))]) C0.1 C0.2.1 d_SE_openAll_28 hl (k := 1) rfl (inc1 _) (by decide) rfl (fun ls hl => ?_)
    refine lv_goto (tgt := 2) C0.1 C0.2.1 d_SE_openAll_31 (by decide) ?_
    exact ih_2 ((j + 1), (va_up f j (br j))) (show (j + 1) ≤ n ∧ ∀ x, x < (j + 1) → (va_up f j (br j)) x = br x from ⟨by omega, lt_s (fun x hx => by rw [va_up_ne _ _ (show x ≠ j by omega)]; exact hi2 x hx) (va_up_self _ _ _)⟩) (show n - (j + 1) < n - j from by show n - (j + 1) < n - j; omega) H locs ls hB (lv_sub hl [1, 0] rfl)
set_option maxHeartbeats 4000000 in
set_option maxRecDepth 100000 in
theorem c_SE_layArc (p0 u v e0 : Nat) (hp0 : p0 < 96) (hu : u < 48) (hv : v < 48) (he0 : e0 < 48) (hak : ak < 192) (hk : ∀ j, kd j < 3) : Mt l y_SE_layArc w_SE_layArc ({ frames := 1, cells := 0, slots := 0, locals := 24 }) g classes (tyL t) [.ref (a 3), .int (nI p0), .int (nI u), .int (nI v), .int (nI e0)] (wW a t n kd em br ii oo np ea eb li rn wa wn sT sP ak ap af tt ac ct rp rt rest L) (S := Nat × (Nat → Nat) × (Nat → Nat) × (Nat → Nat) × (Nat → Nat)) (fun w q => w = none ∧ Laid (okA kd ii oo sT e0 u v) (64 * li p0 + valv kd v) p0 u v ak ap af tt ac q.1 q.2.1 q.2.2.1 q.2.2.2.1 q.2.2.2.2) (fun q => (wW a t n kd em br ii oo np ea eb li rn wa wn sT sP q.1 q.2.1 q.2.2.1 q.2.2.2.1 q.2.2.2.2 ct rp rt rest L)) 0 0 := by
  refine Mt.of (cc := b_SE_layArc) (maxL := 9) (ret := none) (own := R_SE) (by decide) rfl rfl (Nat.le_of_ble_eq_true rfl) ?_
  intro p e s m args below meth c C0 hr hlk hin A hA hB ls hl
  have hl : lv_has ls 9 [(0, .ref (a 3)), (1, .int (nI p0)), (2, .int (nI u)), (3, .int (nI v)), (4, .int (nI e0))] := hl
  refine wcut (g2 := F0 m 23 ls [.int (bI (sT u || sT v))]) ?_ (fun T23 => ?_)
  · refine lv_istore (lv' := [(5, .int (bI (sT u || sT v))), (0, .ref (a 3)), (1, .int (nI p0)), (2, .int (nI u)), (3, .int (nI v)), (4, .int (nI e0))]) C0.1 C0.2.1 d_SE_layArc_23 hl (by decide) rfl (fun ls hl => ?_)
    refine wcut (g2 := F0 m 48 ls [.int (bI (decide (kd v = 0) && decide (v ≠ e0)))]) ?_ (fun T48 => ?_)
    · refine lv_istore (lv' := [(6, .int (bI (decide (kd v = 0) && decide (v ≠ e0)))), (5, .int (bI (sT u || sT v))), (0, .ref (a 3)), (1, .int (nI p0)), (2, .int (nI u)), (3, .int (nI v)), (4, .int (nI e0))]) C0.1 C0.2.1 d_SE_layArc_48 hl (by decide) rfl (fun ls hl => ?_)
      refine lv_iload C0.1 C0.2.1 d_SE_layArc_50 (lv_at hl 1 rfl) ?_
      refine lv_if_ne (tgt := 82) C0.1 C0.2.1 d_SE_layArc_52 (by decide) (fun c_52 => ?_) (fun c_52 => ?_)
      · exact eM_v C0 hr hlk (ak, ap, af, tt, ac) hB ⟨rfl, Or.inr ⟨ok_1 (bI_n0.mp c_52), rfl, rfl, rfl, rfl, rfl⟩⟩ (Nat.le_refl _) (Nat.le_refl _) d_SE_layArc_82
      · refine lv_iload C0.1 C0.2.1 d_SE_layArc_55 (lv_at hl 0 rfl) ?_
        refine lv_if_ne (tgt := 82) C0.1 C0.2.1 d_SE_layArc_57 (by decide) (fun c_57 => ?_) (fun c_57 => ?_)
        · exact eM_v C0 hr hlk (ak, ap, af, tt, ac) hB ⟨rfl, Or.inr ⟨ok_2 (bI_n0.mp c_57), rfl, rfl, rfl, rfl, rfl⟩⟩ (Nat.le_refl _) (Nat.le_refl _) d_SE_layArc_82
        · refine lv_aload_n C0.1 C0.2.1 d_SE_layArc_60 rfl (lv_at hl 2 rfl) ?_
          refine gf_SE_47 C0 hB.1 3 rfl rfl d_SE_layArc_61 ?_
          refine lv_iload_n C0.1 C0.2.1 d_SE_layArc_64 rfl (lv_at hl 4 rfl) ?_
          refine lv_iload_n C0.1 C0.2.1 d_SE_layArc_65 rfl (lv_at hl 5 rfl) ?_
          refine cR (As := [.int (nI u), .int (nI v)]) (rest := []) C0 (c_TH_letFlow u v hu hv hk) (q_SE_112 C0.2.2.2.2.1 rfl rfl ⟨Nat.le_of_ble_eq_true rfl, Nat.le_of_ble_eq_true rfl⟩) (ci := 1) (q0 := 1) rfl rfl rfl hB.1 hl.1 rfl rfl (Nat.le_of_ble_eq_true rfl) d_SE_layArc_66 ⟨Nat.zero_le _, Nat.zero_le _⟩ ?_
          refine W.eq (g2 := F0 m 69 ls [.int (bI (letB kd ii oo u v))]) rfl ?_
          refine lv_if_eq (tgt := 82) C0.1 C0.2.1 d_SE_layArc_69 (by decide) (fun c_69 => ?_) (fun c_69 => ?_)
          · exact eM_v C0 hr hlk (ak, ap, af, tt, ac) hB ⟨rfl, Or.inr ⟨ok_3 (bI_0.mp c_69), rfl, rfl, rfl, rfl, rfl⟩⟩ (Nat.le_refl _) (Nat.le_refl _) d_SE_layArc_82
          · have hok : okA kd ii oo sT e0 u v = true := ok_4 (bI_0.mp c_52) (bI_0.mp c_57) (bI_n0.mp c_69)
            refine lv_aload_n C0.1 C0.2.1 d_SE_layArc_72 rfl (lv_at hl 2 rfl) ?_
            refine gf_SE_34 C0 hB.1 3 rfl rfl d_SE_layArc_73 ?_
            refine lv_sipush (v := nI 192) C0.1 C0.2.1 d_SE_layArc_76 (by decide) ?_
            refine lv_icmp_lt (tgt := 83) C0.1 C0.2.1 d_SE_layArc_79 (by decide) (fun c_79 => ?_) (fun c_79 => ?_)
            · refine wcut (g2 := F0 m 101 ls [.long (lN (valv kd v))]) ?_ (fun T101 => ?_)
              · refine lv_lstore (lv' := [(7, .long (lN (valv kd v))), (6, .int (bI (decide (kd v = 0) && decide (v ≠ e0)))), (5, .int (bI (sT u || sT v))), (0, .ref (a 3)), (1, .int (nI p0)), (2, .int (nI u)), (3, .int (nI v)), (4, .int (nI e0))]) C0.1 C0.2.1 d_SE_layArc_101 hl (by decide) rfl (fun ls hl => ?_)
                refine lv_aload_n C0.1 C0.2.1 d_SE_layArc_103 rfl (lv_at hl 3 rfl) ?_
                refine gf_SE_20 C0 hB.1 3 rfl rfl d_SE_layArc_104 ?_
                refine lv_aload_n C0.1 C0.2.1 d_SE_layArc_107 rfl (lv_at hl 3 rfl) ?_
                refine gf_SE_34 C0 hB.1 3 rfl rfl d_SE_layArc_108 ?_
                refine lv_iload_n C0.1 C0.2.1 d_SE_layArc_111 rfl (lv_at hl 4 rfl) ?_
                refine ast_i (w' := (wW a t n kd em br ii oo np ea eb li rn wa wn sT sP ak (va_up ap ak p0) af tt ac ct rp rt rest L)) C0 hB 16 0 rfl rfl (by omega) (by decide) up_nI rfl d_SE_layArc_112 (fun H locs hB => ?_)
                refine lv_aload_n C0.1 C0.2.1 d_SE_layArc_113 rfl (lv_at hl 3 rfl) ?_
                refine gf_SE_24 C0 hB.1 3 rfl rfl d_SE_layArc_114 ?_
                refine lv_aload_n C0.1 C0.2.1 d_SE_layArc_117 rfl (lv_at hl 3 rfl) ?_
                refine gf_SE_34 C0 hB.1 3 rfl rfl d_SE_layArc_118 ?_
                refine lv_iload_n C0.1 C0.2.1 d_SE_layArc_121 rfl (lv_at hl 5 rfl) ?_
                refine ast_i (w' := (wW a t n kd em br ii oo np ea eb li rn wa wn sT sP ak (va_up ap ak p0) (va_up af ak u) tt ac ct rp rt rest L)) C0 hB 17 0 rfl rfl (by omega) (by decide) up_nI rfl d_SE_layArc_122 (fun H locs hB => ?_)
                refine lv_aload_n C0.1 C0.2.1 d_SE_layArc_123 rfl (lv_at hl 3 rfl) ?_
                refine gf_SE_27 C0 hB.1 3 rfl rfl d_SE_layArc_124 ?_
                refine lv_aload_n C0.1 C0.2.1 d_SE_layArc_127 rfl (lv_at hl 3 rfl) ?_
                refine gf_SE_34 C0 hB.1 3 rfl rfl d_SE_layArc_128 ?_
                refine lv_iload_n C0.1 C0.2.1 d_SE_layArc_131 rfl (lv_at hl 6 rfl) ?_
                refine ast_i (w' := (wW a t n kd em br ii oo np ea eb li rn wa wn sT sP ak (va_up ap ak p0) (va_up af ak u) (va_up tt ak v) ac ct rp rt rest L)) C0 hB 18 0 rfl rfl (by omega) (by decide) up_nI rfl d_SE_layArc_132 (fun H locs hB => ?_)
                refine lv_aload_n C0.1 C0.2.1 d_SE_layArc_133 rfl (lv_at hl 3 rfl) ?_
                refine gf_SE_30 C0 hB.1 3 rfl rfl d_SE_layArc_134 ?_
                refine lv_aload_n C0.1 C0.2.1 d_SE_layArc_137 rfl (lv_at hl 3 rfl) ?_
                refine gf_SE_34 C0 hB.1 3 rfl rfl d_SE_layArc_138 ?_
                refine lv_aload_n C0.1 C0.2.1 d_SE_layArc_141 rfl (lv_at hl 3 rfl) ?_
                refine gf_SE_51 C0 hB.1 3 rfl rfl d_SE_layArc_142 ?_
                refine gf_SE_116 C0 hB.1 2 rfl rfl d_SE_layArc_145 ?_
                refine lv_iload_n C0.1 C0.2.1 d_SE_layArc_148 rfl (lv_at hl 4 rfl) ?_
                refine ald_l C0 hB.1 12 2 rfl rfl (by omega) (by decide) d_SE_layArc_149 ?_
                refine lv_ldc2 C0.1 C0.2.1 C0.2.2.2.1 (C0.2.2.2.2.1 _ k_SE_119) d_SE_layArc_150 ?_
                refine tl (show (64 : Int64) = lN 64 from rfl) ?_
                refine lv_lmul C0.1 C0.2.1 d_SE_layArc_153 ?_
                refine tl (show (lN (li p0)) * (lN 64) = lN (64 * li p0) from by rw [lN_mul, Nat.mul_comm]) ?_
                refine lv_lload C0.1 C0.2.1 d_SE_layArc_154 (lv_at hl 0 rfl) ?_
                refine lv_ladd C0.1 C0.2.1 d_SE_layArc_156 ?_
                refine tl (show (lN (64 * li p0)) + (lN (valv kd v)) = lN (64 * li p0 + (valv kd v)) from lN_add _ _) ?_
                refine ast_l (w' := (wW a t n kd em br ii oo np ea eb li rn wa wn sT sP ak (va_up ap ak p0) (va_up af ak u) (va_up tt ak v) (va_up ac ak (64 * li p0 + (valv kd v))) ct rp rt rest L)) C0 hB 19 2 rfl rfl (by omega) (by decide) up_lN rfl d_SE_layArc_157 (fun H locs hB => ?_)
                refine lv_aload_n C0.1 C0.2.1 d_SE_layArc_158 rfl (lv_at hl 3 rfl) ?_
                refine lv_dup C0.1 C0.2.1 d_SE_layArc_159 rfl ?_
                refine gf_SE_34 C0 hB.1 3 rfl rfl d_SE_layArc_160 ?_
                refine lv_iconst (v := nI 1) C0.1 C0.2.1 d_SE_layArc_163 (by decide) ?_
                refine lv_iadd C0.1 C0.2.1 d_SE_layArc_164 ?_
                refine ti (show (nI ak) + (nI 1) = nI (ak + 1) from nI_add _ _) ?_
                refine pf_SE_34 (w' := (wW a t n kd em br ii oo np ea eb li rn wa wn sT sP (ak + 1) (va_up ap ak p0) (va_up af ak u) (va_up tt ak v) (va_up ac ak (64 * li p0 + (valv kd v))) ct rp rt rest L)) C0 hB 3 rfl (Nat.le_of_ble_eq_true rfl) rfl rfl rfl d_SE_layArc_165 (fun H locs hB => ?_)
                exact eM_v C0 hr hlk (ak + 1, va_up ap ak p0, va_up af ak u, va_up tt ak v, va_up ac ak (64 * li p0 + valv kd v)) hB ⟨rfl, Or.inl ⟨hok, rfl, rfl, rfl, rfl, rfl⟩⟩ (Nat.le_refl _) (Nat.le_refl _) d_SE_layArc_168
              · refine lv_aload_n C0.1 C0.2.1 d_SE_layArc_83 rfl (lv_at hl 2 rfl) ?_
                refine gf_SE_47 C0 hB.1 3 rfl rfl d_SE_layArc_84 ?_
                refine gf_SE_93 C0 hB.1 1 rfl rfl d_SE_layArc_87 ?_
                refine lv_iload_n C0.1 C0.2.1 d_SE_layArc_90 rfl (lv_at hl 5 rfl) ?_
                refine ald_i C0 hB.1 5 0 rfl rfl (by omega) (by decide) d_SE_layArc_91 ?_
                refine lv_iconst (v := nI 2) C0.1 C0.2.1 d_SE_layArc_92 (by decide) ?_
                refine lv_icmp_ne (tgt := 100) C0.1 C0.2.1 d_SE_layArc_93 (by decide) (fun c_93 => ?_) (fun c_93 => ?_)
                · refine lv_lconst (v := lN 0) C0.1 C0.2.1 d_SE_layArc_100 rfl ?_
                  exact tl (show lN 0 = lN (valv kd v) from by rw [show valv kd v = 0 from if_neg (fun q => c_93 (by rw [q]))]) T101
                · refine lv_lconst (v := lN 1) C0.1 C0.2.1 d_SE_layArc_96 rfl ?_
                  refine lv_goto (tgt := 101) C0.1 C0.2.1 d_SE_layArc_97 (by decide) ?_
                  exact tl (show lN 1 = lN (valv kd v) from by rw [show valv kd v = 1 from if_pos ((nI_eq (by have := hk v; omega) (by decide)).mp c_93)]) T101
            · exact absurd ((nI_ltI (by omega) (by omega)).mpr hak) c_79
    · refine lv_aload_n C0.1 C0.2.1 d_SE_layArc_25 rfl (lv_at hl 1 rfl) ?_
      refine gf_SE_47 C0 hB.1 3 rfl rfl d_SE_layArc_26 ?_
      refine gf_SE_93 C0 hB.1 1 rfl rfl d_SE_layArc_29 ?_
      refine lv_iload_n C0.1 C0.2.1 d_SE_layArc_32 rfl (lv_at hl 4 rfl) ?_
      refine ald_i C0 hB.1 5 0 rfl rfl (by omega) (by decide) d_SE_layArc_33 ?_
      refine lv_if_ne (tgt := 47) C0.1 C0.2.1 d_SE_layArc_34 (by decide) (fun c_34 => ?_) (fun c_34 => ?_)
      · refine lv_iconst (v := nI 0) C0.1 C0.2.1 d_SE_layArc_47 (by decide) ?_
        exact ti (show nI 0 = bI (decide (kd v = 0) && decide (v ≠ e0)) from by rw [decide_eq_false (show ¬ kd v = 0 from fun q => c_34 (by rw [q]; rfl))]; rfl) T48
      · refine lv_iload_n C0.1 C0.2.1 d_SE_layArc_37 rfl (lv_at hl 4 rfl) ?_
        refine lv_iload C0.1 C0.2.1 d_SE_layArc_38 (lv_at hl 5 rfl) ?_
        refine lv_icmp_eq (tgt := 47) C0.1 C0.2.1 d_SE_layArc_40 (by decide) (fun c_40 => ?_) (fun c_40 => ?_)
        · refine lv_iconst (v := nI 0) C0.1 C0.2.1 d_SE_layArc_47 (by decide) ?_
          exact ti (show nI 0 = bI (decide (kd v = 0) && decide (v ≠ e0)) from by rw [decide_eq_false (show ¬ (v ≠ e0) from fun q => q ((nI_eq (by omega) (by omega)).mp c_40)), Bool.and_false]; rfl) T48
        · refine lv_iconst (v := nI 1) C0.1 C0.2.1 d_SE_layArc_43 (by decide) ?_
          refine lv_goto (tgt := 48) C0.1 C0.2.1 d_SE_layArc_44 (by decide) ?_
          exact ti (show nI 1 = bI (decide (kd v = 0) && decide (v ≠ e0)) from by rw [decide_eq_true (show v ≠ e0 from fun q => c_40 (by rw [q])), decide_eq_true (show kd v = 0 from (nI_eq (by have := hk v; omega) (by decide)).mp c_34)]; rfl) T48
  · refine lv_aload_n C0.1 C0.2.1 d_SE_layArc_0 rfl (lv_at hl 0 rfl) ?_
    refine gf_SE_11 C0 hB.1 3 rfl rfl d_SE_layArc_1 ?_
    refine lv_iload_n C0.1 C0.2.1 d_SE_layArc_4 rfl (lv_at hl 2 rfl) ?_
    refine ald_z C0 hB.1 14 1 rfl rfl (by omega) (by decide) d_SE_layArc_5 ?_
    refine lv_if_ne (tgt := 18) C0.1 C0.2.1 d_SE_layArc_6 (by decide) (fun c_6 => ?_) (fun c_6 => ?_)
    · refine lv_iconst (v := nI 1) C0.1 C0.2.1 d_SE_layArc_18 (by decide) ?_
      refine lv_goto (tgt := 23) C0.1 C0.2.1 d_SE_layArc_19 (by decide) ?_
      exact ti (show nI 1 = bI (sT u || sT v) from by rw [bI_n0.mp c_6]; rfl) T23
    · refine lv_aload_n C0.1 C0.2.1 d_SE_layArc_9 rfl (lv_at hl 0 rfl) ?_
      refine gf_SE_11 C0 hB.1 3 rfl rfl d_SE_layArc_10 ?_
      refine lv_iload_n C0.1 C0.2.1 d_SE_layArc_13 rfl (lv_at hl 3 rfl) ?_
      refine ald_z C0 hB.1 14 1 rfl rfl (by omega) (by decide) d_SE_layArc_14 ?_
      refine lv_if_eq (tgt := 22) C0.1 C0.2.1 d_SE_layArc_15 (by decide) (fun c_15 => ?_) (fun c_15 => ?_)
      · refine lv_iconst (v := nI 0) C0.1 C0.2.1 d_SE_layArc_22 (by decide) ?_
        exact ti (show nI 0 = bI (sT u || sT v) from by rw [bI_0.mp c_6, bI_0.mp c_15]; rfl) T23
      · refine lv_iconst (v := nI 1) C0.1 C0.2.1 d_SE_layArc_18 (by decide) ?_
        refine lv_goto (tgt := 23) C0.1 C0.2.1 d_SE_layArc_19 (by decide) ?_
        exact ti (show nI 1 = bI (sT u || sT v) from by rw [bI_n0.mp c_15, Bool.or_true]; rfl) T23
set_option maxHeartbeats 4000000 in
set_option maxRecDepth 100000 in
theorem c_SE_layArcs (e0 : Nat) (he0 : e0 < 48) (hn : n ≤ 48) (hnp : np ≤ 96) (hk : ∀ j, kd j < 3) (hea : ∀ j, j < np → ea j < n) (heb : ∀ j, j < np → eb j < n) : Mt l y_SE_layArcs w_SE_layArcs ({ frames := 2, cells := 0, slots := 0, locals := 52 }) g classes (tyL t) [.ref (a 3), .int (nI e0)] (wW a t n kd em br ii oo np ea eb li rn wa wn sT sP ak ap af tt ac ct rp rt rest L) (S := Nat × (Nat → Nat) × (Nat → Nat) × (Nat → Nat) × (Nat → Nat)) (fun v q => v = none ∧ Arcs kd ii oo ea eb li sT sP e0 np q.1 q.2.1 q.2.2.1 q.2.2.2.1 q.2.2.2.2) (fun q => (wW a t n kd em br ii oo np ea eb li rn wa wn sT sP q.1 q.2.1 q.2.2.1 q.2.2.2.1 q.2.2.2.2 ct rp rt rest L)) 0 0 := by
  refine Mt.of (cc := b_SE_layArcs) (maxL := 3) (ret := none) (own := R_SE) (by decide) rfl rfl (Nat.le_of_ble_eq_true rfl) ?_
  intro p e s m args below meth c C0 hr hlk hin A hA hB ls hl
  have hl : lv_has ls 3 [(0, .ref (a 3)), (1, .int (nI e0))] := hl
  refine lv_aload_n C0.1 C0.2.1 d_SE_layArcs_0 rfl (lv_at hl 0 rfl) ?_
  refine lv_iconst (v := nI 0) C0.1 C0.2.1 d_SE_layArcs_1 (by decide) ?_
  refine pf_SE_34 (w' := (wW a t n kd em br ii oo np ea eb li rn wa wn sT sP 0 ap af tt ac ct rp rt rest L)) C0 hB 3 rfl (Nat.le_of_ble_eq_true rfl) rfl rfl rfl d_SE_layArcs_2 (fun H locs hB => ?_)
  refine lv_iconst (v := nI 0) C0.1 C0.2.1 d_SE_layArcs_5 (by decide) ?_
  refine lv_istore_n (lv' := [(2, .int (nI 0)), (0, .ref (a 3)), (1, .int (nI e0))]) C0.1 C0.2.1 d_SE_layArcs_6 rfl hl (by decide) rfl (fun ls hl => ?_)
  refine wlM (σ := Nat × Nat × (Nat → Nat) × (Nat → Nat) × (Nat → Nat) × (Nat → Nat)) (head := 7) (fun z_ => np - z_.1) (fun z_ => z_.1 ≤ np ∧ Arcs kd ii oo ea eb li sT sP e0 z_.1 z_.2.1 z_.2.2.1 z_.2.2.2.1 z_.2.2.2.2.1 z_.2.2.2.2.2) (fun z_ => (wW a t n kd em br ii oo np ea eb li rn wa wn sT sP z_.2.1 z_.2.2.1 z_.2.2.2.1 z_.2.2.2.2.1 z_.2.2.2.2.2 ct rp rt rest L)) (fun z_ => [(0, .ref (a 3)), (1, .int (nI e0)), (2, .int (nI z_.1))]) ?_ (0, 0, ap, af, tt, ac) (show 0 ≤ np ∧ Arcs kd ii oo ea eb li sT sP e0 0 0 ap af tt ac from ⟨Nat.zero_le _, Arcs_0⟩) hB (lv_sub hl [1, 2, 0] rfl)
  rintro ⟨j, k, p1, f1, t1, c1⟩ hi ih_7 H locs ls hB hl
  have hi : j ≤ np ∧ Arcs kd ii oo ea eb li sT sP e0 j k p1 f1 t1 c1 := hi
  obtain ⟨hi1, hi2⟩ := hi
  have hl : lv_has ls 3 [(0, .ref (a 3)), (1, .int (nI e0)), (2, .int (nI j))] := hl
  have hB : wB g classes A s.heap (wW a t n kd em br ii oo np ea eb li rn wa wn sT sP k p1 f1 t1 c1 ct rp rt rest L) H locs := hB
  refine lv_iload_n C0.1 C0.2.1 d_SE_layArcs_7 rfl (lv_at hl 2 rfl) ?_
  refine lv_aload_n C0.1 C0.2.1 d_SE_layArcs_8 rfl (lv_at hl 0 rfl) ?_
  refine gf_SE_51 C0 hB.1 3 rfl rfl d_SE_layArcs_9 ?_
  refine gf_SE_63 C0 hB.1 2 rfl rfl d_SE_layArcs_12 ?_
  refine lv_icmp_ge (tgt := 81) C0.1 C0.2.1 d_SE_layArcs_15 (by decide) (fun c_15 => ?_) (fun c_15 => ?_)
  · have hj : j = np := by have := (nI_leI (by omega) (by omega)).mp c_15; omega
    have hi2 : Arcs kd ii oo ea eb li sT sP e0 np k p1 f1 t1 c1 := hj ▸ hi2
    exact eM_v C0 hr hlk (k, p1, f1, t1, c1) hB (⟨rfl, hi2⟩) (Nat.le_refl _) (Nat.le_refl _) d_SE_layArcs_81
  · have hj : j < np := (nI_nle' (by omega) (by omega)).mp c_15
    have hxa := hea j hj
    have hxb := heb j hj
    refine lv_aload_n C0.1 C0.2.1 d_SE_layArcs_18 rfl (lv_at hl 0 rfl) ?_
    refine gf_SE_17 C0 hB.1 3 rfl rfl d_SE_layArcs_19 ?_
    refine lv_iload_n C0.1 C0.2.1 d_SE_layArcs_22 rfl (lv_at hl 2 rfl) ?_
    refine ald_z C0 hB.1 15 1 rfl rfl (by omega) (by decide) d_SE_layArcs_23 ?_
    refine lv_if_ne (tgt := 75) C0.1 C0.2.1 d_SE_layArcs_24 (by decide) (fun c_24 => ?_) (fun c_24 => ?_)
    · have c_24 := bI_n0.mp c_24
      refine lv_iinc (v := nI (j + 1)) (lv' := [(2, .int (nI (j + 1))), (0, .ref (a 3)), (1, .int (nI e0))]) C0.1 C0.2.1 d_SE_layArcs_75 hl (k := 2) rfl (inc1 _) (by decide) rfl (fun ls hl => ?_)
      refine lv_goto (tgt := 7) C0.1 C0.2.1 d_SE_layArcs_78 (by decide) ?_
      exact ih_7 ((j + 1), k, p1, f1, t1, c1) (show (j + 1) ≤ np ∧ Arcs kd ii oo ea eb li sT sP e0 (j + 1) k p1 f1 t1 c1 from ⟨by omega, Arcs_shut hi2 c_24⟩) (show np - (j + 1) < np - j from by show np - (j + 1) < np - j; omega) H locs ls hB (lv_sub hl [1, 2, 0] rfl)
    · have c_24 := bI_0.mp c_24
      refine lv_aload_n C0.1 C0.2.1 d_SE_layArcs_27 rfl (lv_at hl 0 rfl) ?_
      refine lv_iload_n C0.1 C0.2.1 d_SE_layArcs_28 rfl (lv_at hl 2 rfl) ?_
      refine lv_aload_n C0.1 C0.2.1 d_SE_layArcs_29 rfl (lv_at hl 0 rfl) ?_
      refine gf_SE_51 C0 hB.1 3 rfl rfl d_SE_layArcs_30 ?_
      refine gf_SE_69 C0 hB.1 2 rfl rfl d_SE_layArcs_33 ?_
      refine lv_iload_n C0.1 C0.2.1 d_SE_layArcs_36 rfl (lv_at hl 2 rfl) ?_
      refine ald_i C0 hB.1 10 0 rfl rfl (by omega) (by decide) d_SE_layArcs_37 ?_
      refine lv_aload_n C0.1 C0.2.1 d_SE_layArcs_38 rfl (lv_at hl 0 rfl) ?_
      refine gf_SE_51 C0 hB.1 3 rfl rfl d_SE_layArcs_39 ?_
      refine gf_SE_76 C0 hB.1 2 rfl rfl d_SE_layArcs_42 ?_
      refine lv_iload_n C0.1 C0.2.1 d_SE_layArcs_45 rfl (lv_at hl 2 rfl) ?_
      refine ald_i C0 hB.1 11 0 rfl rfl (by omega) (by decide) d_SE_layArcs_46 ?_
      refine lv_iload_n C0.1 C0.2.1 d_SE_layArcs_47 rfl (lv_at hl 1 rfl) ?_
      refine cM (As := [.int (nI j), .int (nI (ea j)), .int (nI (eb j)), .int (nI e0)]) (rest := []) C0 (c_SE_layArc j (ea j) (eb j) e0 (by omega) (by omega) (by omega) he0 (by have := hi2.1; omega) hk) (q_SE_108 C0.2.2.2.2.1 rfl rfl ⟨Nat.le_of_ble_eq_true rfl, Nat.le_of_ble_eq_true rfl⟩) (ci := 3) (q0 := 3) rfl rfl rfl hB hl.1 rfl rfl (Nat.le_of_ble_eq_true rfl) d_SE_layArcs_48 ⟨Nat.zero_le _, Nat.zero_le _⟩ (fun v_48 u_48 H locs hp_48 hB => ?_)
      obtain ⟨k1, p2, f2, t2, c2⟩ := u_48
      obtain ⟨rfl, g1⟩ := hp_48
      have hB : wB g classes A s.heap (wW a t n kd em br ii oo np ea eb li rn wa wn sT sP k1 p2 f2 t2 c2 ct rp rt rest L) H locs := hB
      refine W.eq (g2 := F0 m 51 ls []) rfl ?_
      refine lv_aload_n C0.1 C0.2.1 d_SE_layArcs_51 rfl (lv_at hl 0 rfl) ?_
      refine lv_iload_n C0.1 C0.2.1 d_SE_layArcs_52 rfl (lv_at hl 2 rfl) ?_
      refine lv_aload_n C0.1 C0.2.1 d_SE_layArcs_53 rfl (lv_at hl 0 rfl) ?_
      refine gf_SE_51 C0 hB.1 3 rfl rfl d_SE_layArcs_54 ?_
      refine gf_SE_76 C0 hB.1 2 rfl rfl d_SE_layArcs_57 ?_
      refine lv_iload_n C0.1 C0.2.1 d_SE_layArcs_60 rfl (lv_at hl 2 rfl) ?_
      refine ald_i C0 hB.1 11 0 rfl rfl (by omega) (by decide) d_SE_layArcs_61 ?_
      refine lv_aload_n C0.1 C0.2.1 d_SE_layArcs_62 rfl (lv_at hl 0 rfl) ?_
      refine gf_SE_51 C0 hB.1 3 rfl rfl d_SE_layArcs_63 ?_
      refine gf_SE_69 C0 hB.1 2 rfl rfl d_SE_layArcs_66 ?_
      refine lv_iload_n C0.1 C0.2.1 d_SE_layArcs_69 rfl (lv_at hl 2 rfl) ?_
      refine ald_i C0 hB.1 10 0 rfl rfl (by omega) (by decide) d_SE_layArcs_70 ?_
      refine lv_iload_n C0.1 C0.2.1 d_SE_layArcs_71 rfl (lv_at hl 1 rfl) ?_
      refine cM (As := [.int (nI j), .int (nI (eb j)), .int (nI (ea j)), .int (nI e0)]) (rest := []) C0 (c_SE_layArc j (eb j) (ea j) e0 (by omega) (by omega) (by omega) he0 (by have := hi2.1; have := Laid_le g1; omega) hk) (q_SE_108 C0.2.2.2.2.1 rfl rfl ⟨Nat.le_of_ble_eq_true rfl, Nat.le_of_ble_eq_true rfl⟩) (ci := 3) (q0 := 3) rfl rfl rfl hB hl.1 rfl rfl (Nat.le_of_ble_eq_true rfl) d_SE_layArcs_72 ⟨Nat.zero_le _, Nat.zero_le _⟩ (fun v_72 u_72 H locs hp_72 hB => ?_)
      obtain ⟨k2, p3, f3, t3, c3⟩ := u_72
      obtain ⟨rfl, g2⟩ := hp_72
      have hB : wB g classes A s.heap (wW a t n kd em br ii oo np ea eb li rn wa wn sT sP k2 p3 f3 t3 c3 ct rp rt rest L) H locs := hB
      refine W.eq (g2 := F0 m 75 ls []) rfl ?_
      refine lv_iinc (v := nI (j + 1)) (lv' := [(2, .int (nI (j + 1))), (0, .ref (a 3)), (1, .int (nI e0))]) C0.1 C0.2.1 d_SE_layArcs_75 hl (k := 2) rfl (inc1 _) (by decide) rfl (fun ls hl => ?_)
      refine lv_goto (tgt := 7) C0.1 C0.2.1 d_SE_layArcs_78 (by decide) ?_
      exact ih_7 ((j + 1), k2, p3, f3, t3, c3) (show (j + 1) ≤ np ∧ Arcs kd ii oo ea eb li sT sP e0 (j + 1) k2 p3 f3 t3 c3 from ⟨by omega, Arcs_lay hi2 c_24 g1 g2⟩) (show np - (j + 1) < np - j from by show np - (j + 1) < np - j; omega) H locs ls hB (lv_sub hl [1, 2, 0] rfl)
end SEARCH1
end
section
/-! rows of ints and longs that agree; the JDK's own methods; a way's own methods -/
theorem app_get {w : va_W} {c : Nat × va_E} : (w ++ [c])[w.length]? = some c := by simp
theorem app_set {w : va_W} {c c' : Nat × va_E} : (w ++ [c]).set w.length c' = w ++ [c'] := by
  apply List.ext_getElem?
  intro j
  by_cases h : j = w.length
  · subst h
    rw [List.getElem?_set_self (by simp)]
    simp
  · rw [List.getElem?_set_ne (Ne.symm h)]
    by_cases h2 : j < w.length
    · rw [List.getElem?_append_left h2, List.getElem?_append_left h2]
    · rw [List.getElem?_eq_none (by simp; omega), List.getElem?_eq_none (by simp; omega)]
theorem app_low {w w' : va_W} {q : Nat} {c : Nat × va_E} (h : w[q]? = some c) : (w ++ w')[q]? = some c := by
  rw [List.getElem?_append_left (List.getElem?_eq_some_iff.mp h).1]
  exact h
theorem arrV_ext {cA : ClassId} {n : Nat} {f f' : Nat → Value} (h : ∀ j, j < n → f j = f' j) : arrV cA n f = arrV cA n f' := by
  unfold arrV
  congr 1
  apply Array.ext
  · simp
  · intro i h1 h2
    simp only [Array.getElem_ofFn]
    exact h i (by simpa using h1)
theorem wB.exti {g : va_G} {cl : List vw_C} {A : Nat → Prop} {H0 : Heap} {w w' : va_W} {H : Heap} {locs : List Loc} {q0 x N : Nat} {cA : ClassId} {f f' : Nat → Int32} (hB : wB g cl A H0 w H locs) (h : w[q0]? = some (x, .inl (cA, N, .inl f))) (hf : ∀ j, j < N → f j = f' j) (hw : w.set q0 (x, .inl (cA, N, .inl f')) = w') : wB g cl A H0 w' H locs := by
  subst hw
  obtain ⟨hP, hD, hS, hA⟩ := hB
  refine ⟨hP.set hD h ?_ (fun _ _ => rfl), hD.set h, hS, hA⟩
  have h1 : H[x]? = some (vp_cell cA (N, .inl f)) := hP q0 _ h
  show H[x]? = some (vp_cell cA (N, .inl f'))
  rw [h1]
  congr 1
  show arrV cA N (fun j => .int (f j)) = arrV cA N (fun j => .int (f' j))
  exact arrV_ext (fun j hj => by rw [hf j hj])
theorem wB.extl {g : va_G} {cl : List vw_C} {A : Nat → Prop} {H0 : Heap} {w w' : va_W} {H : Heap} {locs : List Loc} {q0 x N : Nat} {cA : ClassId} {f f' : Nat → Int64} (hB : wB g cl A H0 w H locs) (h : w[q0]? = some (x, .inl (cA, N, .inr (.inl f)))) (hf : ∀ j, j < N → f j = f' j) (hw : w.set q0 (x, .inl (cA, N, .inr (.inl f'))) = w') : wB g cl A H0 w' H locs := by
  subst hw
  obtain ⟨hP, hD, hS, hA⟩ := hB
  refine ⟨hP.set hD h ?_ (fun _ _ => rfl), hD.set h, hS, hA⟩
  have h1 : H[x]? = some (vp_cell cA (N, .inr (.inl f))) := hP q0 _ h
  show H[x]? = some (vp_cell cA (N, .inr (.inl f')))
  rw [h1]
  congr 1
  show arrV cA N (fun j => .long (f j)) = arrV cA N (fun j => .long (f' j))
  exact arrV_ext (fun j hj => by rw [hf j hj])
theorem k_AR_316 : Cond.methodLink R_AR 316 ⟨"[I", "clone", "()Ljava/lang/Object;"⟩ ∈ gT := gT_in (List.mem_of_getElem? (i := 269) (by decide +kernel)) (by decide +kernel)
theorem k_cl_1 : Cond.sameMethod "[I" "java/lang/Object" "clone" "()Ljava/lang/Object;" ∈ gT := gT_in (List.mem_of_getElem? (i := 270) (by decide +kernel)) (by decide +kernel)
theorem k_cl_2 : Cond.native ⟨"java/lang/Object", "clone", "()Ljava/lang/Object;"⟩ ∈ gT := gT_in (List.mem_of_getElem? (i := 271) (by decide +kernel)) (by decide +kernel)
theorem k_cl_3 : Cond.instanceMethod ⟨"java/lang/Object", "clone", "()Ljava/lang/Object;"⟩ ∈ gT := gT_in (List.mem_of_getElem? (i := 272) (by decide +kernel)) (by decide +kernel)
theorem k_cl_4 : Cond.selects "[I" ⟨"[I", "clone", "()Ljava/lang/Object;"⟩ ⟨"java/lang/Object", "clone", "()Ljava/lang/Object;"⟩ ∈ gT := gT_in (List.mem_of_getElem? (i := 273) (by decide +kernel)) (by decide +kernel)
theorem k_AR_317 : Cond.classLink R_AR 317 "[I" ∈ gT := gT_in (List.mem_of_getElem? (i := 275) (by decide +kernel)) (by decide +kernel)
theorem k_AR_150 : Cond.methodLink R_AR 150 arraycopyName ∈ gT := gT_in (List.mem_of_getElem? (i := 279) (by decide +kernel)) (by decide +kernel)
theorem k_ac_1 : Cond.native arraycopyName ∈ gT := gT_in (List.mem_of_getElem? (i := 281) (by decide +kernel)) (by decide +kernel)
theorem k_ac_2 : Cond.static arraycopyName ∈ gT := gT_in (List.mem_of_getElem? (i := 280) (by decide +kernel)) (by decide +kernel)
theorem k_mm_1 : Cond.methodLink R_AR 304 Lib.Math.min.name ∈ gT := gT_in (List.mem_of_getElem? (i := 276) (by decide +kernel)) (by decide +kernel)
theorem k_mm_2 : Cond.static Lib.Math.min.name ∈ gT := gT_in (List.mem_of_getElem? (i := 277) (by decide +kernel)) (by decide +kernel)
theorem k_mm_3 : Cond.code Lib.Math.min.name Lib.Math.min.code 2 (some .int) ∈ gT := gT_in (List.mem_of_getElem? (i := 278) (by decide +kernel)) (by decide +kernel)
section JDK
variable {l : Launch} {g : va_G} {t : Nat → ClassId} {w : va_W}
set_option maxHeartbeats 4000000 in
set_option maxRecDepth 100000 in
theorem c_AR_copyOf (q0 x N k : Nat) (f f' : Nat → Int32) (hq : w[q0]? = some (x, .inl (t 0, N, .inl f))) (hN : N < 2 ^ 20) (hk : k ≤ N) (hf : ∀ j, j < k → f j = f' j) : Mt l y_AR_copyOf w_AR_copyOf ({ frames := 1, cells := 1, slots := k, locals := 60 }) g classes (tyL t) [.ref x, .int (nI k)] w (S := Nat) (fun v q => v = some (.ref q)) (fun q => w ++ [(q, .inl (t 0, k, .inl f'))]) 1 k := by
  refine Mt.of (cc := b_AR_copyOf) (maxL := 3) (ret := (some (.array .int))) (own := R_AR) (by decide) rfl rfl (Nat.le_of_ble_eq_true rfl) ?_
  intro p e s m args below meth c C0 hr hlk hin A hA hB ls hl
  have hl : lv_has ls 3 [(0, .ref x), (1, .int (nI k))] := hl
  have hnm : s.vm.findClass "[I" = some (t 0) := (C0.2.2.2.2.2.1.2 0 (t 0, .int) rfl).2
  refine lv_iload_n C0.1 C0.2.1 d_AR_copyOf_0 rfl (lv_at hl 1 rfl) ?_
  refine lv_aload_n C0.1 C0.2.1 d_AR_copyOf_1 rfl (lv_at hl 0 rfl) ?_
  refine alen (n := N) C0 hB.1 q0 0 hq rfl rfl d_AR_copyOf_2 ?_
  refine lv_icmp_ne (tgt := 14) C0.1 C0.2.1 d_AR_copyOf_3 (by decide) (fun c_3 => ?_) (fun c_3 => ?_)
  · have hlt : k < N := by
      rcases Nat.lt_or_ge k N with h | h
      · exact h
      · exact absurd (by rw [show k = N by omega]) c_3
    refine lv_iload_n C0.1 C0.2.1 d_AR_copyOf_14 rfl (lv_at hl 1 rfl) ?_
    refine anw (atype := .int) (a0 := (k, .inl (fun _ => 0))) C0 hB 0 rfl rfl (fun _ h => by cases h) k_arr_int (fun _ => rfl) (by omega) (by show k * 4 ≤ _; omega) (Nat.le_of_ble_eq_true rfl) (by show 0 + k ≤ k; omega) d_AR_copyOf_15 (fun q H hB => ?_)
    refine W.widen (k := 1) (n := k) (by omega) (by omega) ?_
    refine lv_astore_n (lv' := [(2, .ref q), (0, .ref x), (1, .int (nI k))]) C0.1 C0.2.1 d_AR_copyOf_17 rfl hl (by decide) rfl (fun ls hl => ?_)
    refine lv_aload_n C0.1 C0.2.1 d_AR_copyOf_18 rfl (lv_at hl 1 rfl) ?_
    refine lv_iconst (v := nI 0) C0.1 C0.2.1 d_AR_copyOf_19 (by decide) ?_
    refine lv_aload_n C0.1 C0.2.1 d_AR_copyOf_20 rfl (lv_at hl 0 rfl) ?_
    refine lv_iconst (v := nI 0) C0.1 C0.2.1 d_AR_copyOf_21 (by decide) ?_
    refine lv_aload_n C0.1 C0.2.1 d_AR_copyOf_22 rfl (lv_at hl 1 rfl) ?_
    refine alen (n := N) C0 hB.1 q0 0 (app_low hq) rfl rfl d_AR_copyOf_23 ?_
    refine lv_iload_n C0.1 C0.2.1 d_AR_copyOf_24 rfl (lv_at hl 2 rfl) ?_
    refine va_mmin (own := R_AR) C0.1 C0.2.1 (by rw [C0.2.2.1]; exact hl.1.symm) C0.2.2.2.1 (C0.2.2.2.2.1 _ k_mm_1) (C0.2.2.2.2.1 _ k_mm_2) (C0.2.2.2.2.1 _ k_ini_MA) (C0.2.2.2.2.1 _ k_mm_3) (Nat.le_of_ble_eq_true rfl) (Nat.le_of_ble_eq_true rfl) (Nat.le_refl _) (Nat.le_refl _) d_AR_copyOf_25 ?_
    refine ti (show (if nI k < nI N then nI k else nI N) = nI k from if_pos (nI_lt hlt (by omega))) ?_
    refine W.eq (g2 := F0 m 28 ls [.int (nI k), .int (nI 0), .ref q, .int (nI 0), .ref x]) rfl ?_
    have e0 : (nI 0).toNatClampNeg = 0 := nI_clamp (by decide)
    have ek : (nI k).toNatClampNeg = k := nI_clamp (by omega)
    refine va_copyi (own := R_AR) (ty := .int) C0.1 C0.2.1 (by rw [C0.2.2.1]; exact hl.1.symm) C0.2.2.2.1 (C0.2.2.2.2.1 _ k_AR_150) (C0.2.2.2.2.1 _ k_ac_1) (C0.2.2.2.2.1 _ k_ac_2) (C0.2.2.2.2.1 _ k_ini_SY) C0.2.2.2.2.2.1 hB.1 hB.2.1 hB.2.2.1 q0 w.length 0 0 (app_low hq) app_get rfl rfl rfl (nI_pos (by decide)) (nI_pos (by decide)) (nI_pos (by omega)) (by rw [e0, ek]; omega) (by rw [e0, ek]; omega) (fun _ _ => rfl) (Nat.le_of_ble_eq_true rfl) (Nat.le_of_ble_eq_true rfl) d_AR_copyOf_28 (fun H locs hP hD hS => ?_)
    rw [app_set, e0, ek] at hP hD
    have hB : wB g classes A s.heap (w ++ [(q, .inl (t 0, k, .inl f'))]) H locs := by
      refine wB.exti (q0 := w.length) (f := va_cpy f (fun _ => 0) 0 0 k) ⟨hP, hD, hS, hB.2.2.2⟩ app_get (fun j hj => ?_) app_set
      rw [sb_cpy0 hj]
      exact hf j hj
    refine lv_aload_n C0.1 C0.2.1 d_AR_copyOf_31 rfl (lv_at hl 0 rfl) ?_
    exact eM_a C0 hr (Or.inr ⟨_, rfl⟩) hlk q (Or.inr ⟨_, rfl⟩) hB rfl (Nat.le_refl _) (Nat.le_refl _) d_AR_copyOf_32
  · have hke : k = N := (nI_eq (by omega) (by omega)).mp c_3
    subst hke
    refine lv_aload_n C0.1 C0.2.1 d_AR_copyOf_6 rfl (lv_at hl 0 rfl) ?_
    refine va_clone (own := R_AR) (ad := "[I") C0.1 C0.2.1 (by rw [C0.2.2.1]; exact hl.1.symm) C0.2.2.2.1 (C0.2.2.2.2.1 _ k_AR_316) (C0.2.2.2.2.1 _ k_cl_1) (C0.2.2.2.2.1 _ k_cl_2) (C0.2.2.2.2.1 _ k_cl_3) (C0.2.2.2.2.1 _ k_cl_4) C0.2.2.2.2.2.2 C0.2.2.2.2.2.1 hB.1 hB.2.1 hB.2.2.1 hB.2.2.2 q0 0 hq rfl hnm (fun i v hv => ?_) (Nat.le_of_ble_eq_true rfl) (Nat.le_of_ble_eq_true rfl) (Nat.le_of_ble_eq_true rfl) (by show 0 + k ≤ k; omega) d_AR_copyOf_7 (fun q H hK1 hP hD hS => ?_)
    · have h1 : (arrV (t 0) k (fun j => .int (f j))).slots[i]? = some v := hv
      have h2 := (Array.getElem?_eq_some_iff.mp h1).2
      rw [← h2]
      simp only [arrV, Array.getElem_ofFn]
      rfl
    · have hB : wB g classes A s.heap (w ++ [(q, .inl (t 0, k, .inl f'))]) H [] := wB.exti (q0 := w.length) (f := f) ⟨hP, hD, hS, hB.2.2.2⟩ app_get hf app_set
      refine va_castA (own := R_AR) C0.1 C0.2.1 C0.2.2.2.1 (C0.2.2.2.2.1 _ k_AR_317) hB.1 w.length app_get hnm d_AR_copyOf_10 ?_
      exact eM_a C0 hr (Or.inr ⟨_, rfl⟩) hlk q (Or.inr ⟨_, rfl⟩) hB rfl (Nat.le_refl _) (by show 0 + k ≤ k; omega) d_AR_copyOf_13
end JDK

section WAYS
variable {l : Launch} {w : va_W} {g : va_G} {t : Nat → ClassId} {a : Nat → Nat} {n : Nat} {kd : Nat → Nat} {em : Nat → Bool} {br : Nat → Bool} {ii : Nat → Int32} {oo : Nat → Int32} {np : Nat} {ea : Nat → Nat} {eb : Nat → Nat} {li : Nat → Nat} {rn : Nat → Bool} {wa : Nat → Option Nat} {wn : Nat} {sT : Nat → Bool} {sP : Nat → Bool} {ak : Nat} {ap : Nat → Nat} {af : Nat → Nat} {tt : Nat → Nat} {ac : Nat → Nat} {ct : Nat → Nat} {rp : Nat → Nat} {rt : Nat → Nat} {rest : va_W} {L : List Wy}
set_option maxHeartbeats 4000000 in
set_option maxRecDepth 100000 in
theorem c_FW_init (b0 : Nat) (x y : Int32) (z : Int64) (pa ta : Nat) : Mt l y_FW_init w_FW_init ({ frames := 1, cells := 0, slots := 0, locals := 12 }) g classes (tyL t) [.ref b0, .int x, .int y, .long z, .ref pa, .ref ta] (w ++ [(b0, .inr (4, [.int 0, .int 0, .long 0, .null, .null]))]) (S := Unit) (fun v _ => v = none) (fun _ => (w ++ [(b0, .inr (4, [.int x, .int y, .long z, .ref pa, .ref ta]))])) 0 0 := by
  refine Mt.of (cc := b_FW_init) (maxL := 7) (ret := none) (own := R_FW) (by decide) rfl rfl (Nat.le_of_ble_eq_true rfl) ?_
  intro p e s m args below meth c C0 hr hlk hin A hA hB ls hl
  have hl : lv_has ls 7 [(0, .ref b0), (1, .int x), (2, .int y), (3, .long z), (5, .ref pa), (6, .ref ta)] := hl
  refine lv_aload_n C0.1 C0.2.1 d_FW_init_0 rfl (lv_at hl 0 rfl) ?_
  refine oi C0 k_FW_3 hl.1 (Nat.le_of_ble_eq_true rfl) (Nat.le_of_ble_eq_true rfl) d_FW_init_1 ?_
  refine lv_aload_n C0.1 C0.2.1 d_FW_init_4 rfl (lv_at hl 0 rfl) ?_
  refine lv_iload_n C0.1 C0.2.1 d_FW_init_5 rfl (lv_at hl 1 rfl) ?_
  refine pf_FW_9 (w' := (w ++ [(b0, .inr (4, [.int x, .int 0, .long 0, .null, .null]))])) C0 hin hB w.length app_get (Nat.le_of_ble_eq_true rfl) rfl rfl app_set d_FW_init_6 (fun H locs hB => ?_)
  refine lv_aload_n C0.1 C0.2.1 d_FW_init_9 rfl (lv_at hl 0 rfl) ?_
  refine lv_iload_n C0.1 C0.2.1 d_FW_init_10 rfl (lv_at hl 2 rfl) ?_
  refine pf_FW_15 (w' := (w ++ [(b0, .inr (4, [.int x, .int y, .long 0, .null, .null]))])) C0 hin hB w.length app_get (Nat.le_of_ble_eq_true rfl) rfl rfl app_set d_FW_init_11 (fun H locs hB => ?_)
  refine lv_aload_n C0.1 C0.2.1 d_FW_init_14 rfl (lv_at hl 0 rfl) ?_
  refine lv_lload_n C0.1 C0.2.1 d_FW_init_15 rfl (lv_at hl 3 rfl) ?_
  refine pf_FW_18 (w' := (w ++ [(b0, .inr (4, [.int x, .int y, .long z, .null, .null]))])) C0 hin hB w.length app_get (Nat.le_of_ble_eq_true rfl) rfl rfl app_set d_FW_init_16 (fun H locs hB => ?_)
  refine lv_aload_n C0.1 C0.2.1 d_FW_init_19 rfl (lv_at hl 0 rfl) ?_
  refine lv_aload C0.1 C0.2.1 d_FW_init_20 (lv_at hl 4 rfl) ?_
  refine pf_FW_22 (w' := (w ++ [(b0, .inr (4, [.int x, .int y, .long z, .ref pa, .null]))])) C0 hin hB w.length app_get (Nat.le_of_ble_eq_true rfl) rfl rfl app_set d_FW_init_22 (fun H locs hB => ?_)
  refine lv_aload_n C0.1 C0.2.1 d_FW_init_25 rfl (lv_at hl 0 rfl) ?_
  refine lv_aload C0.1 C0.2.1 d_FW_init_26 (lv_at hl 5 rfl) ?_
  refine pf_FW_26 (w' := (w ++ [(b0, .inr (4, [.int x, .int y, .long z, .ref pa, .ref ta]))])) C0 hin hB w.length app_get (Nat.le_of_ble_eq_true rfl) rfl rfl app_set d_FW_init_28 (fun H locs hB => ?_)
  exact eM_v C0 hr hlk () hB (rfl) (Nat.le_refl _) (Nat.le_refl _) d_FW_init_31
def pAt (N : Nat) (F : Nat → Int32) (x : Int32) : Int32 := if hasB N x = true then F x.toNatClampNeg else -1
theorem pAt_n {N : Nat} {F : Nat → Int32} {x : Int32} (h : hasB N x = false) : pAt N F x = -1 := by
  unfold pAt; rw [h]; rfl
theorem pAt_j {N j : Nat} {F : Nat → Int32} (hj : j < N) (hN : N < 2 ^ 31) : pAt N F (nI j) = F j := by
  unfold pAt; rw [hasB_nI (by omega), decide_eq_true hj, nI_clamp (by omega)]; rfl
set_option maxHeartbeats 4000000 in
set_option maxRecDepth 100000 in
theorem c_FW_pipeAt (q0 q1 o0 pa ta N : Nat) (F : Nat → Int32) (x y : Int32) (z : Int64) (k : Int32) (hq : w[q0]? = some (o0, .inr (4, [.int x, .int y, .long z, .ref pa, .ref ta]))) (hq1 : w[q1]? = some (pa, .inl (t 0, N, .inl F))) (hN : N < 2 ^ 20) : Rd l y_FW_pipeAt w_FW_pipeAt ({ frames := 0, cells := 0, slots := 0, locals := 0 }) g classes (tyL t) [.ref o0, .int k] w (some (.int (pAt N F k))) := by
  refine Rd.of (cc := b_FW_pipeAt) (maxL := 2) (ret := (some .int)) (own := R_FW) (by decide) rfl rfl (Nat.le_of_ble_eq_true rfl) ?_
  intro p e s m args below meth c C0 hr hlk hP ls hl
  have hl : lv_has ls 2 [(0, .ref o0), (1, .int k)] := hl
  refine lv_iload_n C0.1 C0.2.1 d_FW_pipeAt_0 rfl (lv_at hl 1 rfl) ?_
  refine lv_if_lt (tgt := 22) C0.1 C0.2.1 d_FW_pipeAt_1 (by decide) (fun c_1 => ?_) (fun c_1 => ?_)
  · refine lv_iconst (v := -1) C0.1 C0.2.1 d_FW_pipeAt_22 (by decide) ?_
    exact eR_i C0 hr hlk (by rw [pAt_n (hasB_neg c_1)]) d_FW_pipeAt_23
  · refine lv_iload_n C0.1 C0.2.1 d_FW_pipeAt_4 rfl (lv_at hl 1 rfl) ?_
    refine lv_aload_n C0.1 C0.2.1 d_FW_pipeAt_5 rfl (lv_at hl 0 rfl) ?_
    refine gf_FW_22 C0 hP q0 hq rfl d_FW_pipeAt_6 ?_
    refine alen (n := N) C0 hP q1 0 hq1 rfl rfl d_FW_pipeAt_9 ?_
    refine lv_icmp_ge (tgt := 22) C0.1 C0.2.1 d_FW_pipeAt_10 (by decide) (fun c_10 => ?_) (fun c_10 => ?_)
    · refine lv_iconst (v := -1) C0.1 C0.2.1 d_FW_pipeAt_22 (by decide) ?_
      exact eR_i C0 hr hlk (by rw [pAt_n (hasB_ge (by omega) c_10)]) d_FW_pipeAt_23
    · obtain ⟨j, hj, rfl⟩ : ∃ j : Nat, j < N ∧ k = nI j := hasB_ex (by omega) (hasB_t (by omega) c_1 c_10)
      refine lv_aload_n C0.1 C0.2.1 d_FW_pipeAt_13 rfl (lv_at hl 0 rfl) ?_
      refine gf_FW_22 C0 hP q0 hq rfl d_FW_pipeAt_14 ?_
      refine lv_iload_n C0.1 C0.2.1 d_FW_pipeAt_17 rfl (lv_at hl 1 rfl) ?_
      refine ald_i C0 hP q1 0 hq1 rfl (by omega) (by omega) d_FW_pipeAt_18 ?_
      refine lv_goto (tgt := 23) C0.1 C0.2.1 d_FW_pipeAt_19 (by decide) ?_
      exact eR_i C0 hr hlk (by rw [pAt_j hj (by omega)]) d_FW_pipeAt_23
set_option maxHeartbeats 4000000 in
set_option maxRecDepth 100000 in
theorem c_FW_thingAt (q0 q1 o0 pa ta N : Nat) (F : Nat → Int32) (x y : Int32) (z : Int64) (k : Int32) (hq : w[q0]? = some (o0, .inr (4, [.int x, .int y, .long z, .ref pa, .ref ta]))) (hq1 : w[q1]? = some (ta, .inl (t 0, N, .inl F))) (hN : N < 2 ^ 20) : Rd l y_FW_thingAt w_FW_thingAt ({ frames := 0, cells := 0, slots := 0, locals := 0 }) g classes (tyL t) [.ref o0, .int k] w (some (.int (pAt N F k))) := by
  refine Rd.of (cc := b_FW_thingAt) (maxL := 2) (ret := (some .int)) (own := R_FW) (by decide) rfl rfl (Nat.le_of_ble_eq_true rfl) ?_
  intro p e s m args below meth c C0 hr hlk hP ls hl
  have hl : lv_has ls 2 [(0, .ref o0), (1, .int k)] := hl
  refine lv_iload_n C0.1 C0.2.1 d_FW_thingAt_0 rfl (lv_at hl 1 rfl) ?_
  refine lv_if_lt (tgt := 22) C0.1 C0.2.1 d_FW_thingAt_1 (by decide) (fun c_1 => ?_) (fun c_1 => ?_)
  · refine lv_iconst (v := -1) C0.1 C0.2.1 d_FW_thingAt_22 (by decide) ?_
    exact eR_i C0 hr hlk (by rw [pAt_n (hasB_neg c_1)]) d_FW_thingAt_23
  · refine lv_iload_n C0.1 C0.2.1 d_FW_thingAt_4 rfl (lv_at hl 1 rfl) ?_
    refine lv_aload_n C0.1 C0.2.1 d_FW_thingAt_5 rfl (lv_at hl 0 rfl) ?_
    refine gf_FW_26 C0 hP q0 hq rfl d_FW_thingAt_6 ?_
    refine alen (n := N) C0 hP q1 0 hq1 rfl rfl d_FW_thingAt_9 ?_
    refine lv_icmp_ge (tgt := 22) C0.1 C0.2.1 d_FW_thingAt_10 (by decide) (fun c_10 => ?_) (fun c_10 => ?_)
    · refine lv_iconst (v := -1) C0.1 C0.2.1 d_FW_thingAt_22 (by decide) ?_
      exact eR_i C0 hr hlk (by rw [pAt_n (hasB_ge (by omega) c_10)]) d_FW_thingAt_23
    · obtain ⟨j, hj, rfl⟩ : ∃ j : Nat, j < N ∧ k = nI j := hasB_ex (by omega) (hasB_t (by omega) c_1 c_10)
      refine lv_aload_n C0.1 C0.2.1 d_FW_thingAt_13 rfl (lv_at hl 0 rfl) ?_
      refine gf_FW_26 C0 hP q0 hq rfl d_FW_thingAt_14 ?_
      refine lv_iload_n C0.1 C0.2.1 d_FW_thingAt_17 rfl (lv_at hl 1 rfl) ?_
      refine ald_i C0 hP q1 0 hq1 rfl (by omega) (by omega) d_FW_thingAt_18 ?_
      refine lv_goto (tgt := 23) C0.1 C0.2.1 d_FW_thingAt_19 (by decide) ?_
      exact eR_i C0 hr hlk (by rw [pAt_j hj (by omega)]) d_FW_thingAt_23
end WAYS
end
section
/-! the walk by the first tight arcs -/
section FW
variable {k t : Nat} {af tt ac c : Nat → Nat}
def bf_fw (k : Nat) (af tt ac c : Nat → Nat) (t : Nat) : Nat → List Nat → Prop
  | v, [] => v = t
  | v, j :: r => v ≠ t ∧ j < k ∧ bf_tight af tt ac c v j ∧ (∀ i, i < j → ¬ bf_tight af tt ac c v i) ∧ bf_fw k af tt ac c t (tt j) r
theorem bf_fw_ex (h : bf_ex k af tt ac t c) (hp : ∀ j, j < k → 0 < ac j) : ∀ (m v : Nat), c v < m → c v ≠ bf_far → ∃ w, bf_fw k af tt ac c t v w
  | 0, v, hm, _ => absurd hm (Nat.not_lt_zero _)
  | m + 1, v, hm, hc => by
    by_cases hv : v = t
    · exact ⟨[], hv⟩
    · obtain ⟨j0, h1, h2⟩ := bf_tight_ex h hv hc
      obtain ⟨j, ⟨h3, h4⟩, h5⟩ := pk_least (fun j => j < k ∧ bf_tight af tt ac c v j) ⟨j0, h1, h2⟩
      have h6 := hp j h3
      have h7 := h4.2.2
      obtain ⟨w, h8⟩ := bf_fw_ex h hp m (tt j) (by omega) h4.2.1
      exact ⟨j :: w, hv, h3, h4, fun i hi q => h5 i hi ⟨by omega, q⟩, h8⟩
theorem bf_fw_tw : ∀ (w : List Nat) (v : Nat), bf_fw k af tt ac c t v w → bf_tw k af tt ac c t v w
  | [], _, h => h
  | _ :: r, _, h => ⟨h.2.1, h.2.2.1, bf_fw_tw r _ h.2.2.2.2⟩
theorem bf_fw_min (h : bf_ex k af tt ac t c) (ht : c t = 0) {w : List Nat} {v : Nat} (hw : bf_fw k af tt ac c t v w) : bf_min k af tt ac t v w := by
  have h1 := bf_fw_tw w v hw
  refine ⟨bf_tw_walk w v h1, fun w' h2 => ?_⟩
  rw [bf_tw_cost ht w v h1]
  exact h.2.2 v w' h2
theorem bf_fw_len (h : bf_ex k af tt ac t c) (ht : c t = 0) (hp : ∀ j, j < k → 0 < ac j) {n : Nat} (hn : ∀ j, j < k → tt j < n) {v : Nat} (hv : v < n) {w : List Nat} (hw : bf_fw k af tt ac c t v w) : w.length < n := bf_min_len hp hn hv (bf_fw_min h ht hw)
theorem bf_nodes_len (v : Nat) (w : List Nat) : (bf_nodes tt v w).length = w.length + 1 := by simp [bf_nodes]
theorem bf_nodes_s {v : Nat} {w : List Nat} {j : Nat} (hj : j < w.length) : (bf_nodes tt v w).getD (j + 1) 0 = tt (w.getD j 0) := by
  simp [bf_nodes, List.getD, hj]
theorem bf_fw_at : ∀ (w : List Nat) (v j : Nat), bf_fw k af tt ac c t v w → j < w.length → (bf_nodes tt v w).getD j 0 ≠ t ∧ w.getD j 0 < k ∧ bf_tight af tt ac c ((bf_nodes tt v w).getD j 0) (w.getD j 0) ∧ ∀ i, i < w.getD j 0 → ¬ bf_tight af tt ac c ((bf_nodes tt v w).getD j 0) i
  | [], v, j, _, hj => absurd hj (Nat.not_lt_zero _)
  | x :: r, v, 0, h, _ => ⟨h.1, h.2.1, h.2.2.1, h.2.2.2.1⟩
  | x :: r, v, j + 1, h, hj => bf_fw_at r (tt x) j h.2.2.2.2 (by simpa using hj)
theorem bf_fw_end : ∀ (w : List Nat) (v : Nat), bf_fw k af tt ac c t v w → (bf_nodes tt v w).getD w.length 0 = t
  | [], v, h => h
  | x :: r, v, h => bf_fw_end r (tt x) h.2.2.2.2
theorem bf_walk_lt {n : Nat} (hn : ∀ j, j < k → tt j < n) : ∀ (w : List Nat) (v j : Nat), v < n → bf_walk k af tt t v w → (bf_nodes tt v w).getD j 0 < n
  | [], v, j, hv, _ => by
    cases j with
    | zero => exact hv
    | succ j => exact Nat.lt_of_le_of_lt (Nat.zero_le _) hv
  | x :: r, v, 0, hv, _ => hv
  | x :: r, v, j + 1, hv, hw => bf_walk_lt hn r (tt x) j (hn x hw.1) hw.2.2
end FW
theorem nI_m1 {j : Nat} (hj : j < 2 ^ 31) : ¬ nI j = -1 := by
  intro q
  have h := nI_toInt hj
  rw [q] at h
  have : (-1 : Int32).toInt = -1 := by decide
  omega
theorem bf_it_s1 {af tt ac c0 : Nat → Nat} {i : Nat} (h : bf_it af tt ac c0 i (tt i) ≠ bf_far ∧ bf_it af tt ac c0 i (tt i) + ac i < bf_it af tt ac c0 i (af i)) : bf_it af tt ac c0 (i + 1) = va_up (bf_it af tt ac c0 i) (af i) (bf_it af tt ac c0 i (tt i) + ac i) ∧ bf_ch af tt ac c0 (i + 1) = true := by
  constructor
  · show (if _ then _ else _) = _
    rw [if_pos h]
  · show (_ || decide _) = true
    rw [decide_eq_true h, Bool.or_true]
theorem bf_it_s0 {af tt ac c0 : Nat → Nat} {i : Nat} (h : ¬ (bf_it af tt ac c0 i (tt i) ≠ bf_far ∧ bf_it af tt ac c0 i (tt i) + ac i < bf_it af tt ac c0 i (af i))) : bf_it af tt ac c0 (i + 1) = bf_it af tt ac c0 i ∧ bf_ch af tt ac c0 (i + 1) = bf_ch af tt ac c0 i := by
  constructor
  · show (if _ then _ else _) = _
    rw [if_neg h]
  · show (_ || decide _) = _
    rw [decide_eq_false h, Bool.or_false]
theorem rc_0 {ak e0 : Nat} {af tt ac : Nat → Nat} (_ : ak ≤ 192) : 0 ≤ 48 ∧ (∀ v, va_up (fun _ => bf_far) e0 0 v ≤ bf_far) ∧ bf_snd ak af tt ac e0 (va_up (fun _ => bf_far) e0 0) ∧ va_up (fun _ => bf_far) e0 0 e0 = 0 ∧ bf_bd (0 * (192 * 100000000000)) (va_up (fun _ => bf_far) e0 0) ∧ bf_cmp ak af tt ac e0 0 (va_up (fun _ => bf_far) e0 0) ∧ (true = false → ∀ j, j < ak → va_up (fun _ => bf_far) e0 0 (tt j) ≠ bf_far → va_up (fun _ => bf_far) e0 0 (af j) ≤ va_up (fun _ => bf_far) e0 0 (tt j) + ac j) := by
  refine ⟨Nat.zero_le _, fun v => ?_, fun v hv => ?_, va_up_self _ _ _, fun v => ?_, fun v w hw hl => ?_, fun h => by cases h⟩
  · by_cases e : v = e0
    · rw [e, va_up_self]; exact Nat.zero_le _
    · rw [va_up_ne _ _ e]; exact Nat.le_refl _
  · by_cases e : v = e0
    · subst e
      exact ⟨[], rfl, (va_up_self _ _ _).symm⟩
    · rw [va_up_ne _ _ e] at hv
      exact absurd rfl hv
  · by_cases e : v = e0
    · rw [e, va_up_self]; exact Or.inr (Nat.zero_le _)
    · rw [va_up_ne _ _ e]; exact Or.inl rfl
  · cases w with
    | nil =>
      have e : v = e0 := hw
      rw [e, va_up_self]
      exact Nat.zero_le _
    | cons j r => simp at hl
theorem rc_s {ak e0 r : Nat} {af tt ac f f1 : Nat → Nat} (hak : ak ≤ 192) (hac : ∀ j, j < ak → ac j ≤ 100000000000) (h2 : ∀ v, f v ≤ bf_far) (h3 : bf_snd ak af tt ac e0 f) (h4 : f e0 = 0) (h5 : bf_bd (r * (192 * 100000000000)) f) (h6 : bf_cmp ak af tt ac e0 r f) (hr : r < 48) (hf : f1 = bf_it af tt ac f ak) : r + 1 ≤ 48 ∧ (∀ v, f1 v ≤ bf_far) ∧ bf_snd ak af tt ac e0 f1 ∧ f1 e0 = 0 ∧ bf_bd ((r + 1) * (192 * 100000000000)) f1 ∧ bf_cmp ak af tt ac e0 (r + 1) f1 ∧ (bf_ch af tt ac f ak = false → ∀ j, j < ak → f1 (tt j) ≠ bf_far → f1 (af j) ≤ f1 (tt j) + ac j) := by
  subst hf
  refine ⟨by omega, fun v => bf_le_far h2 ak v, bf_snd_it h3 ak (Nat.le_refl _), ?_, fun v => ?_, bf_cmp_pass h2 hac ?_ h6, fun hc => ?_⟩
  · have := bf_mono (af := af) (tt := tt) (ac := ac) f ak e0
    omega
  · rcases bf_bd_it (af := af) (tt := tt) h5 hac ak (Nat.le_refl _) v with q | q
    · exact Or.inl q
    · refine Or.inr ?_
      have : ak * 100000000000 ≤ 192 * 100000000000 := Nat.mul_le_mul_right _ hak
      rw [Nat.succ_mul]
      exact Nat.le_trans q (Nat.add_le_add_left this _)
  · have : r * 100000000000 ≤ 48 * 100000000000 := Nat.mul_le_mul_right _ (by omega)
    show _ < 9223372036854775807
    omega
  · have := bf_still ak hc
    rw [this.1]
    exact this.2
end
section
section SEARCH2
variable {l : Launch} {g : va_G} {t : Nat → ClassId} {a : Nat → Nat} {n : Nat} {kd : Nat → Nat} {em : Nat → Bool} {br : Nat → Bool} {ii : Nat → Int32} {oo : Nat → Int32} {np : Nat} {ea : Nat → Nat} {eb : Nat → Nat} {li : Nat → Nat} {rn : Nat → Bool} {wa : Nat → Option Nat} {wn : Nat} {sT : Nat → Bool} {sP : Nat → Bool} {ak : Nat} {ap : Nat → Nat} {af : Nat → Nat} {tt : Nat → Nat} {ac : Nat → Nat} {ct : Nat → Nat} {rp : Nat → Nat} {rt : Nat → Nat} {rest : va_W} {L : List Wy}
set_option maxHeartbeats 4000000 in
set_option maxRecDepth 100000 in
theorem c_AR_fill  : Mt l y_AR_fill w_AR_fill ({ frames := 0, cells := 0, slots := 0, locals := 0 }) g classes (tyL t) [.ref (a 20), .long (lN bf_far)] (wW a t n kd em br ii oo np ea eb li rn wa wn sT sP ak ap af tt ac ct rp rt rest L) (S := Unit) (fun v _ => v = none) (fun _ => (wW a t n kd em br ii oo np ea eb li rn wa wn sT sP ak ap af tt ac (fun _ => bf_far) rp rt rest L)) 0 0 := by
  refine Mt.of (cc := b_AR_fill) (maxL := 5) (ret := none) (own := R_AR) (by decide) rfl rfl (Nat.le_of_ble_eq_true rfl) ?_
  intro p e s m args below meth c C0 hr hlk hin A hA hB ls hl
  have hl : lv_has ls 5 [(0, .ref (a 20)), (1, .long (lN bf_far))] := hl
  refine lv_iconst (v := nI 0) C0.1 C0.2.1 d_AR_fill_0 (by decide) ?_
  refine lv_istore_n (lv' := [(3, .int (nI 0)), (0, .ref (a 20)), (1, .long (lN bf_far))]) C0.1 C0.2.1 d_AR_fill_1 rfl hl (by decide) rfl (fun ls hl => ?_)
  refine lv_aload_n C0.1 C0.2.1 d_AR_fill_2 rfl (lv_at hl 1 rfl) ?_
  refine alen (n := 48) C0 hB.1 20 2 rfl rfl rfl d_AR_fill_3 ?_
  refine lv_istore (lv' := [(4, .int (nI 48)), (3, .int (nI 0)), (0, .ref (a 20)), (1, .long (lN bf_far))]) C0.1 C0.2.1 d_AR_fill_4 hl (by decide) rfl (fun ls hl => ?_)
  refine wlM (σ := Nat × (Nat → Nat)) (head := 6) (fun z_ => 48 - z_.1) (fun z_ => z_.1 ≤ 48 ∧ ∀ x, x < z_.1 → z_.2 x = bf_far) (fun z_ => (wW a t n kd em br ii oo np ea eb li rn wa wn sT sP ak ap af tt ac z_.2 rp rt rest L)) (fun z_ => [(0, .ref (a 20)), (1, .long (lN bf_far)), (3, .int (nI z_.1)), (4, .int (nI 48))]) ?_ (0, ct) (show 0 ≤ 48 ∧ ∀ x, x < 0 → ct x = bf_far from ⟨Nat.zero_le _, fun i h => absurd h (Nat.not_lt_zero _)⟩) hB (lv_sub hl [2, 3, 1, 0] rfl)
  rintro ⟨j, f⟩ hi ih H locs ls hB hl
  have hi : j ≤ 48 ∧ ∀ x, x < j → f x = bf_far := hi
  obtain ⟨hi1, hi2⟩ := hi
  have hl : lv_has ls 5 [(0, .ref (a 20)), (1, .long (lN bf_far)), (3, .int (nI j)), (4, .int (nI 48))] := hl
  have hB : wB g classes A s.heap (wW a t n kd em br ii oo np ea eb li rn wa wn sT sP ak ap af tt ac f rp rt rest L) H locs := hB
  refine lv_iload_n C0.1 C0.2.1 d_AR_fill_6 rfl (lv_at hl 2 rfl) ?_
  refine lv_iload C0.1 C0.2.1 d_AR_fill_7 (lv_at hl 3 rfl) ?_
  refine lv_icmp_ge (tgt := 22) C0.1 C0.2.1 d_AR_fill_9 (by decide) (fun c_9 => ?_) (fun c_9 => ?_)
  · have hj : j = 48 := by have := (nI_leI (by omega) (by omega)).mp c_9; omega
    exact eM_v C0 hr hlk () (wB.extl (q0 := 20) (f' := fun _ => lN bf_far) hB rfl (fun x hx => by rw [hi2 x (by omega)]) rfl) rfl (Nat.le_refl _) (Nat.le_refl _) d_AR_fill_22
  · have hj : j < 48 := (nI_nle' (by omega) (by omega)).mp c_9
    refine lv_aload_n C0.1 C0.2.1 d_AR_fill_12 rfl (lv_at hl 0 rfl) ?_
    refine lv_iload_n C0.1 C0.2.1 d_AR_fill_13 rfl (lv_at hl 2 rfl) ?_
    refine lv_lload_n C0.1 C0.2.1 d_AR_fill_14 rfl (lv_at hl 1 rfl) ?_
    refine ast_l (w' := (wW a t n kd em br ii oo np ea eb li rn wa wn sT sP ak ap af tt ac (va_up f j bf_far) rp rt rest L)) C0 hB 20 2 rfl rfl (by omega) (by decide) up_lN rfl d_AR_fill_15 (fun H locs hB => ?_)
    refine lv_iinc (v := nI (j + 1)) (lv' := [(3, .int (nI (j + 1))), (0, .ref (a 20)), (1, .long (lN bf_far)), (4, .int (nI 48))]) C0.1 C0.2.1 d_AR_fill_16 hl (k := 2) rfl (inc1 _) (by decide) rfl (fun ls hl => ?_)
    refine lv_goto (tgt := 6) C0.1 C0.2.1 d_AR_fill_19 (by decide) ?_
    exact ih ((j + 1), (va_up f j bf_far)) (show (j + 1) ≤ 48 ∧ ∀ x, x < (j + 1) → (va_up f j bf_far) x = bf_far from ⟨by omega, lt_s (fun x hx => by rw [va_up_ne _ _ (show x ≠ j by omega)]; exact hi2 x hx) (va_up_self _ _ _)⟩) (show 48 - (j + 1) < 48 - j from by omega) H locs ls hB (lv_sub hl [1, 2, 0, 3] rfl)
set_option maxHeartbeats 4000000 in
set_option maxRecDepth 100000 in
theorem c_SE_lowerCosts (M : Nat) (hak : ak ≤ 192) (haf : ∀ j, j < ak → af j < 48) (htt : ∀ j, j < ak → tt j < 48) (hac : ∀ j, j < ak → ac j ≤ 100000000000) (hct : ∀ v, ct v ≤ bf_far) (hM : bf_bd M ct) (hMs : M ≤ 1000000000000000) : Mt l y_SE_lowerCosts w_SE_lowerCosts ({ frames := 0, cells := 0, slots := 0, locals := 0 }) g classes (tyL t) [.ref (a 3)] (wW a t n kd em br ii oo np ea eb li rn wa wn sT sP ak ap af tt ac ct rp rt rest L) (S := Nat → Nat) (fun v f => v = some (.int (bI (bf_ch af tt ac ct ak))) ∧ f = bf_it af tt ac ct ak) (fun f => (wW a t n kd em br ii oo np ea eb li rn wa wn sT sP ak ap af tt ac f rp rt rest L)) 0 0 := by
  refine Mt.of (cc := b_SE_lowerCosts) (maxL := 5) (ret := (some .boolean)) (own := R_SE) (by decide) rfl rfl (Nat.le_of_ble_eq_true rfl) ?_
  intro p e s m args below meth c C0 hr hlk hin A hA hB ls hl
  have hl : lv_has ls 5 [(0, .ref (a 3))] := hl
  refine lv_iconst (v := bI false) C0.1 C0.2.1 d_SE_lowerCosts_0 (by decide) ?_
  refine lv_istore_n (lv' := [(1, .int (bI false)), (0, .ref (a 3))]) C0.1 C0.2.1 d_SE_lowerCosts_1 rfl hl (by decide) rfl (fun ls hl => ?_)
  refine lv_iconst (v := nI 0) C0.1 C0.2.1 d_SE_lowerCosts_2 (by decide) ?_
  refine lv_istore_n (lv' := [(2, .int (nI 0)), (1, .int (bI false)), (0, .ref (a 3))]) C0.1 C0.2.1 d_SE_lowerCosts_3 rfl hl (by decide) rfl (fun ls hl => ?_)
  refine wlM (σ := Nat × (Nat → Nat) × Bool) (head := 4) (fun z_ => ak - z_.1) (fun z_ => z_.1 ≤ ak ∧ z_.2.1 = bf_it af tt ac ct z_.1 ∧ z_.2.2 = bf_ch af tt ac ct z_.1) (fun z_ => (wW a t n kd em br ii oo np ea eb li rn wa wn sT sP ak ap af tt ac z_.2.1 rp rt rest L)) (fun z_ => [(0, .ref (a 3)), (1, .int (bI z_.2.2)), (2, .int (nI z_.1))]) ?_ (0, ct, false) (show 0 ≤ ak ∧ ct = bf_it af tt ac ct 0 ∧ false = bf_ch af tt ac ct 0 from ⟨Nat.zero_le _, rfl, rfl⟩) hB (lv_sub hl [2, 1, 0] rfl)
  rintro ⟨j, f, b⟩ hi ih H locs ls hB hl
  have hi : j ≤ ak ∧ f = bf_it af tt ac ct j ∧ b = bf_ch af tt ac ct j := hi
  obtain ⟨hi1, hi2, hi3⟩ := hi
  have hl : lv_has ls 5 [(0, .ref (a 3)), (1, .int (bI b)), (2, .int (nI j))] := hl
  have hB : wB g classes A s.heap (wW a t n kd em br ii oo np ea eb li rn wa wn sT sP ak ap af tt ac f rp rt rest L) H locs := hB
  refine lv_iload_n C0.1 C0.2.1 d_SE_lowerCosts_4 rfl (lv_at hl 2 rfl) ?_
  refine lv_aload_n C0.1 C0.2.1 d_SE_lowerCosts_5 rfl (lv_at hl 0 rfl) ?_
  refine gf_SE_34 C0 hB.1 3 rfl rfl d_SE_lowerCosts_6 ?_
  refine lv_icmp_ge (tgt := 82) C0.1 C0.2.1 d_SE_lowerCosts_9 (by decide) (fun c_9 => ?_) (fun c_9 => ?_)
  · have hj : j = ak := by have := (nI_leI (by omega) (by omega)).mp c_9; omega
    refine lv_iload_n C0.1 C0.2.1 d_SE_lowerCosts_82 rfl (lv_at hl 1 rfl) ?_
    exact eM_z C0 hr hlk (b := b) f rfl hB ⟨by rw [hi3, hj], by rw [hi2, hj]⟩ (Nat.le_refl _) (Nat.le_refl _) d_SE_lowerCosts_83
  · have hj : j < ak := (nI_nle' (by omega) (by omega)).mp c_9
    have hxa := haf j hj
    have hxt := htt j hj
    have hxc := hac j hj
    have hfl : ∀ v, f v ≤ bf_far := fun v => by rw [hi2]; exact bf_le_far hct j v
    have h1 : f (tt j) < 9223372036854775808 := Nat.lt_of_le_of_lt (hfl (tt j)) (by decide)
    have h2 : f (af j) < 9223372036854775808 := Nat.lt_of_le_of_lt (hfl (af j)) (by decide)
    refine lv_aload_n C0.1 C0.2.1 d_SE_lowerCosts_12 rfl (lv_at hl 0 rfl) ?_
    refine gf_SE_38 C0 hB.1 3 rfl rfl d_SE_lowerCosts_13 ?_
    refine lv_aload_n C0.1 C0.2.1 d_SE_lowerCosts_16 rfl (lv_at hl 0 rfl) ?_
    refine gf_SE_27 C0 hB.1 3 rfl rfl d_SE_lowerCosts_17 ?_
    refine lv_iload_n C0.1 C0.2.1 d_SE_lowerCosts_20 rfl (lv_at hl 2 rfl) ?_
    refine ald_i C0 hB.1 18 0 rfl rfl (by omega) (by decide) d_SE_lowerCosts_21 ?_
    refine ald_l C0 hB.1 20 2 rfl rfl (by omega) (by decide) d_SE_lowerCosts_22 ?_
    refine lv_lstore_n (lv' := [(3, .long (lN (f (tt j)))), (0, .ref (a 3)), (1, .int (bI b)), (2, .int (nI j))]) C0.1 C0.2.1 d_SE_lowerCosts_23 rfl hl (by decide) rfl (fun ls hl => ?_)
    refine lv_lload_n C0.1 C0.2.1 d_SE_lowerCosts_24 rfl (lv_at hl 0 rfl) ?_
    refine lv_ldc2 C0.1 C0.2.1 C0.2.2.2.1 (C0.2.2.2.2.1 _ k_SE_102) d_SE_lowerCosts_25 ?_
    refine tl (show (9223372036854775807 : Int64) = lN 9223372036854775807 from rfl) ?_
    refine W.lcmp C0.1 C0.2.1 d_SE_lowerCosts_28 ?_
    refine lv_if_eq (tgt := 76) C0.1 C0.2.1 d_SE_lowerCosts_29 (by decide) (fun c_29 => ?_) (fun c_29 => ?_)
    · have hno : ¬ (f (tt j) ≠ bf_far ∧ f (tt j) + ac j < f (af j)) := fun q => q.1 ((pk_lEQ (by omega) (by decide)).mp ((lg_cmp_eq _ _).mp c_29))
      refine lv_iinc (v := nI (j + 1)) (lv' := [(2, .int (nI (j + 1))), (3, .long (lN (f (tt j)))), (0, .ref (a 3)), (1, .int (bI b))]) C0.1 C0.2.1 d_SE_lowerCosts_76 hl (k := 3) rfl (inc1 _) (by decide) rfl (fun ls hl => ?_)
      refine lv_goto (tgt := 4) C0.1 C0.2.1 d_SE_lowerCosts_79 (by decide) ?_
      exact ih ((j + 1), f, b) (show (j + 1) ≤ ak ∧ f = bf_it af tt ac ct (j + 1) ∧ b = bf_ch af tt ac ct (j + 1) from ⟨by omega, by rw [(bf_it_s0 (by rw [← hi2]; exact hno)).1]; exact hi2, by rw [(bf_it_s0 (by rw [← hi2]; exact hno)).2]; exact hi3⟩) (show ak - (j + 1) < ak - j from by omega) H locs ls hB (lv_sub hl [2, 3, 0] rfl)
    · have hfar : f (tt j) ≠ bf_far := fun q => c_29 ((lg_cmp_eq _ _).mpr (by rw [q]))
      have hbd : f (tt j) ≤ M + 192 * 100000000000 := by
        rcases bf_bd_it (af := af) (tt := tt) hM hac j (by omega) (tt j) with q | q
        · rw [← hi2] at q; exact absurd q hfar
        · rw [← hi2] at q; exact Nat.le_trans q (Nat.add_le_add_left (Nat.mul_le_mul_right _ (by omega)) _)
      refine lv_lload_n C0.1 C0.2.1 d_SE_lowerCosts_32 rfl (lv_at hl 0 rfl) ?_
      refine lv_aload_n C0.1 C0.2.1 d_SE_lowerCosts_33 rfl (lv_at hl 1 rfl) ?_
      refine gf_SE_30 C0 hB.1 3 rfl rfl d_SE_lowerCosts_34 ?_
      refine lv_iload_n C0.1 C0.2.1 d_SE_lowerCosts_37 rfl (lv_at hl 3 rfl) ?_
      refine ald_l C0 hB.1 19 2 rfl rfl (by omega) (by decide) d_SE_lowerCosts_38 ?_
      refine lv_ladd C0.1 C0.2.1 d_SE_lowerCosts_39 ?_
      refine tl (show (lN (f (tt j))) + (lN (ac j)) = lN (f (tt j) + (ac j)) from lN_add _ _) ?_
      refine lv_aload_n C0.1 C0.2.1 d_SE_lowerCosts_40 rfl (lv_at hl 1 rfl) ?_
      refine gf_SE_38 C0 hB.1 3 rfl rfl d_SE_lowerCosts_41 ?_
      refine lv_aload_n C0.1 C0.2.1 d_SE_lowerCosts_44 rfl (lv_at hl 1 rfl) ?_
      refine gf_SE_24 C0 hB.1 3 rfl rfl d_SE_lowerCosts_45 ?_
      refine lv_iload_n C0.1 C0.2.1 d_SE_lowerCosts_48 rfl (lv_at hl 3 rfl) ?_
      refine ald_i C0 hB.1 17 0 rfl rfl (by omega) (by decide) d_SE_lowerCosts_49 ?_
      refine ald_l C0 hB.1 20 2 rfl rfl (by omega) (by decide) d_SE_lowerCosts_50 ?_
      refine W.lcmp C0.1 C0.2.1 d_SE_lowerCosts_51 ?_
      refine lv_if_ge (tgt := 76) C0.1 C0.2.1 d_SE_lowerCosts_52 (by decide) (fun c_52 => ?_) (fun c_52 => ?_)
      · have hno : ¬ (f (tt j) ≠ bf_far ∧ f (tt j) + ac j < f (af j)) := fun q => by have h5 := (pk_lLE (by omega) (by omega)).mp ((lg_cmp_ge _ _).mp c_52); omega
        refine lv_iinc (v := nI (j + 1)) (lv' := [(2, .int (nI (j + 1))), (3, .long (lN (f (tt j)))), (0, .ref (a 3)), (1, .int (bI b))]) C0.1 C0.2.1 d_SE_lowerCosts_76 hl (k := 3) rfl (inc1 _) (by decide) rfl (fun ls hl => ?_)
        refine lv_goto (tgt := 4) C0.1 C0.2.1 d_SE_lowerCosts_79 (by decide) ?_
        exact ih ((j + 1), f, b) (show (j + 1) ≤ ak ∧ f = bf_it af tt ac ct (j + 1) ∧ b = bf_ch af tt ac ct (j + 1) from ⟨by omega, by rw [(bf_it_s0 (by rw [← hi2]; exact hno)).1]; exact hi2, by rw [(bf_it_s0 (by rw [← hi2]; exact hno)).2]; exact hi3⟩) (show ak - (j + 1) < ak - j from by omega) H locs ls hB (lv_sub hl [2, 3, 0] rfl)
      · have hless : f (tt j) + ac j < f (af j) := by
          rcases Nat.lt_or_ge (f (tt j) + ac j) (f (af j)) with q | q
          · exact q
          · exact absurd ((lg_cmp_ge _ _).mpr ((pk_lLE (by omega) (by omega)).mpr q)) c_52
        refine lv_aload_n C0.1 C0.2.1 d_SE_lowerCosts_55 rfl (lv_at hl 1 rfl) ?_
        refine gf_SE_38 C0 hB.1 3 rfl rfl d_SE_lowerCosts_56 ?_
        refine lv_aload_n C0.1 C0.2.1 d_SE_lowerCosts_59 rfl (lv_at hl 1 rfl) ?_
        refine gf_SE_24 C0 hB.1 3 rfl rfl d_SE_lowerCosts_60 ?_
        refine lv_iload_n C0.1 C0.2.1 d_SE_lowerCosts_63 rfl (lv_at hl 3 rfl) ?_
        refine ald_i C0 hB.1 17 0 rfl rfl (by omega) (by decide) d_SE_lowerCosts_64 ?_
        refine lv_lload_n C0.1 C0.2.1 d_SE_lowerCosts_65 rfl (lv_at hl 0 rfl) ?_
        refine lv_aload_n C0.1 C0.2.1 d_SE_lowerCosts_66 rfl (lv_at hl 1 rfl) ?_
        refine gf_SE_30 C0 hB.1 3 rfl rfl d_SE_lowerCosts_67 ?_
        refine lv_iload_n C0.1 C0.2.1 d_SE_lowerCosts_70 rfl (lv_at hl 3 rfl) ?_
        refine ald_l C0 hB.1 19 2 rfl rfl (by omega) (by decide) d_SE_lowerCosts_71 ?_
        refine lv_ladd C0.1 C0.2.1 d_SE_lowerCosts_72 ?_
        refine tl (show (lN (f (tt j))) + (lN (ac j)) = lN (f (tt j) + (ac j)) from lN_add _ _) ?_
        refine ast_l (w' := (wW a t n kd em br ii oo np ea eb li rn wa wn sT sP ak ap af tt ac (va_up f (af j) (f (tt j) + (ac j))) rp rt rest L)) C0 hB 20 2 rfl rfl (by omega) (by decide) up_lN rfl d_SE_lowerCosts_73 (fun H locs hB => ?_)
        refine lv_iconst (v := bI true) C0.1 C0.2.1 d_SE_lowerCosts_74 (by decide) ?_
        refine lv_istore_n (lv' := [(1, .int (bI true)), (3, .long (lN (f (tt j)))), (0, .ref (a 3)), (2, .int (nI j))]) C0.1 C0.2.1 d_SE_lowerCosts_75 rfl hl (by decide) rfl (fun ls hl => ?_)
        refine lv_iinc (v := nI (j + 1)) (lv' := [(2, .int (nI (j + 1))), (1, .int (bI true)), (3, .long (lN (f (tt j)))), (0, .ref (a 3))]) C0.1 C0.2.1 d_SE_lowerCosts_76 hl (k := 3) rfl (inc1 _) (by decide) rfl (fun ls hl => ?_)
        refine lv_goto (tgt := 4) C0.1 C0.2.1 d_SE_lowerCosts_79 (by decide) ?_
        exact ih ((j + 1), (va_up f (af j) (f (tt j) + (ac j))), true) (show (j + 1) ≤ ak ∧ (va_up f (af j) (f (tt j) + (ac j))) = bf_it af tt ac ct (j + 1) ∧ true = bf_ch af tt ac ct (j + 1) from ⟨by omega, by rw [hi2]; exact (bf_it_s1 (by rw [← hi2]; exact ⟨hfar, hless⟩)).1.symm, (bf_it_s1 (by rw [← hi2]; exact ⟨hfar, hless⟩)).2.symm⟩) (show ak - (j + 1) < ak - j from by omega) H locs ls hB (lv_sub hl [3, 1, 0] rfl)
set_option maxHeartbeats 4000000 in
set_option maxRecDepth 100000 in
theorem c_SE_reckonCostsTo (e0 : Nat) (he0 : e0 < 48) (hak : ak ≤ 192) (haf : ∀ j, j < ak → af j < 48) (htt : ∀ j, j < ak → tt j < 48) (hac : ∀ j, j < ak → ac j ≤ 100000000000) (hpos : ∀ j, j < ak → 0 < ac j) : Mt l y_SE_reckonCostsTo w_SE_reckonCostsTo ({ frames := 1, cells := 0, slots := 0, locals := 24 }) g classes (tyL t) [.ref (a 3), .int (nI e0)] (wW a t n kd em br ii oo np ea eb li rn wa wn sT sP ak ap af tt ac ct rp rt rest L) (S := Nat → Nat) (fun v f => v = none ∧ bf_ex ak af tt ac e0 f ∧ f e0 = 0 ∧ bf_bd 1000000000000000 f) (fun f => (wW a t n kd em br ii oo np ea eb li rn wa wn sT sP ak ap af tt ac f rp rt rest L)) 0 0 := by
  refine Mt.of (cc := b_SE_reckonCostsTo) (maxL := 4) (ret := none) (own := R_SE) (by decide) rfl rfl (Nat.le_of_ble_eq_true rfl) ?_
  intro p e s m args below meth c C0 hr hlk hin A hA hB ls hl
  have hl : lv_has ls 4 [(0, .ref (a 3)), (1, .int (nI e0))] := hl
  refine lv_aload_n C0.1 C0.2.1 d_SE_reckonCostsTo_0 rfl (lv_at hl 0 rfl) ?_
  refine gf_SE_38 C0 hB.1 3 rfl rfl d_SE_reckonCostsTo_1 ?_
  refine lv_ldc2 C0.1 C0.2.1 C0.2.2.2.1 (C0.2.2.2.2.1 _ k_SE_102) d_SE_reckonCostsTo_4 ?_
  refine tl (show (9223372036854775807 : Int64) = lN 9223372036854775807 from rfl) ?_
  refine cMS (As := [.ref (a 20), .long (lN 9223372036854775807)]) (rest := []) C0 (c_AR_fill) (q_SE_121 C0.2.2.2.2.1 rfl rfl ⟨Nat.le_of_ble_eq_true rfl, Nat.le_of_ble_eq_true rfl⟩) hB hl.1 rfl rfl (Nat.le_of_ble_eq_true rfl) d_SE_reckonCostsTo_7 ⟨Nat.zero_le _, Nat.zero_le _⟩ (fun v_7 u_7 H locs hp_7 hB => ?_)
  obtain rfl := hp_7
  have hB : wB g classes A s.heap (wW a t n kd em br ii oo np ea eb li rn wa wn sT sP ak ap af tt ac (fun _ => bf_far) rp rt rest L) H locs := hB
  refine W.eq (g2 := F0 m 10 ls []) rfl ?_
  refine lv_aload_n C0.1 C0.2.1 d_SE_reckonCostsTo_10 rfl (lv_at hl 0 rfl) ?_
  refine gf_SE_38 C0 hB.1 3 rfl rfl d_SE_reckonCostsTo_11 ?_
  refine lv_iload_n C0.1 C0.2.1 d_SE_reckonCostsTo_14 rfl (lv_at hl 1 rfl) ?_
  refine lv_lconst (v := lN 0) C0.1 C0.2.1 d_SE_reckonCostsTo_15 rfl ?_
  refine ast_l (w' := (wW a t n kd em br ii oo np ea eb li rn wa wn sT sP ak ap af tt ac (va_up (fun _ => bf_far) e0 0) rp rt rest L)) C0 hB 20 2 rfl rfl (by omega) (by decide) up_lN rfl d_SE_reckonCostsTo_16 (fun H locs hB => ?_)
  refine lv_iconst (v := bI true) C0.1 C0.2.1 d_SE_reckonCostsTo_17 (by decide) ?_
  refine lv_istore_n (lv' := [(2, .int (bI true)), (0, .ref (a 3)), (1, .int (nI e0))]) C0.1 C0.2.1 d_SE_reckonCostsTo_18 rfl hl (by decide) rfl (fun ls hl => ?_)
  refine lv_iconst (v := nI 0) C0.1 C0.2.1 d_SE_reckonCostsTo_19 (by decide) ?_
  refine lv_istore_n (lv' := [(3, .int (nI 0)), (2, .int (bI true)), (0, .ref (a 3)), (1, .int (nI e0))]) C0.1 C0.2.1 d_SE_reckonCostsTo_20 rfl hl (by decide) rfl (fun ls hl => ?_)
  refine wlM (σ := Nat × (Nat → Nat) × Bool) (head := 21) (fun z_ => 48 - z_.1) (fun z_ => z_.1 ≤ 48 ∧ (∀ v, z_.2.1 v ≤ bf_far) ∧ bf_snd ak af tt ac e0 z_.2.1 ∧ z_.2.1 e0 = 0 ∧ bf_bd (z_.1 * (192 * 100000000000)) z_.2.1 ∧ bf_cmp ak af tt ac e0 z_.1 z_.2.1 ∧ (z_.2.2 = false → ∀ j, j < ak → z_.2.1 (tt j) ≠ bf_far → z_.2.1 (af j) ≤ z_.2.1 (tt j) + ac j)) (fun z_ => (wW a t n kd em br ii oo np ea eb li rn wa wn sT sP ak ap af tt ac z_.2.1 rp rt rest L)) (fun z_ => [(0, .ref (a 3)), (2, .int (bI z_.2.2)), (3, .int (nI z_.1))]) ?_ (0, (va_up (fun _ => bf_far) e0 0), true) (show 0 ≤ 48 ∧ (∀ v, (va_up (fun _ => bf_far) e0 0) v ≤ bf_far) ∧ bf_snd ak af tt ac e0 (va_up (fun _ => bf_far) e0 0) ∧ (va_up (fun _ => bf_far) e0 0) e0 = 0 ∧ bf_bd (0 * (192 * 100000000000)) (va_up (fun _ => bf_far) e0 0) ∧ bf_cmp ak af tt ac e0 0 (va_up (fun _ => bf_far) e0 0) ∧ (true = false → ∀ j, j < ak → (va_up (fun _ => bf_far) e0 0) (tt j) ≠ bf_far → (va_up (fun _ => bf_far) e0 0) (af j) ≤ (va_up (fun _ => bf_far) e0 0) (tt j) + ac j) from rc_0 hak) hB (lv_sub hl [2, 1, 0] rfl)
  rintro ⟨r, f, b⟩ hi ih H locs ls hB hl
  have hi : r ≤ 48 ∧ (∀ v, f v ≤ bf_far) ∧ bf_snd ak af tt ac e0 f ∧ f e0 = 0 ∧ bf_bd (r * (192 * 100000000000)) f ∧ bf_cmp ak af tt ac e0 r f ∧ (b = false → ∀ j, j < ak → f (tt j) ≠ bf_far → f (af j) ≤ f (tt j) + ac j) := hi
  obtain ⟨hi1, hi2, hi3, hi4, hi5, hi6, hi7⟩ := hi
  have hl : lv_has ls 4 [(0, .ref (a 3)), (2, .int (bI b)), (3, .int (nI r))] := hl
  have hB : wB g classes A s.heap (wW a t n kd em br ii oo np ea eb li rn wa wn sT sP ak ap af tt ac f rp rt rest L) H locs := hB
  refine lv_iload_n C0.1 C0.2.1 d_SE_reckonCostsTo_21 rfl (lv_at hl 2 rfl) ?_
  refine lv_bipush (v := nI 48) C0.1 C0.2.1 d_SE_reckonCostsTo_22 (by decide) ?_
  refine lv_icmp_ge (tgt := 42) C0.1 C0.2.1 d_SE_reckonCostsTo_24 (by decide) (fun c_24 => ?_) (fun c_24 => ?_)
  · have hr48 : r = 48 := by have := (nI_leI (by omega) (by omega)).mp c_24; omega
    have hex : bf_ex ak af tt ac e0 f := bf_ex_cmp (n := 48) hi2 hi3 hpos (fun j hj => ⟨haf j hj, htt j hj⟩) he0 (hr48 ▸ hi6)
    exact eM_v C0 hr hlk f hB ⟨rfl, hex, hi4, fun v => by rcases hi5 v with q | q; exact Or.inl q; exact Or.inr (by have : r * (192 * 100000000000) ≤ 48 * (192 * 100000000000) := Nat.mul_le_mul_right _ hi1; omega)⟩ (Nat.le_refl _) (Nat.le_refl _) d_SE_reckonCostsTo_42
  · have hr1 : r < 48 := (nI_nle' (by omega) (by omega)).mp c_24
    refine lv_iload_n C0.1 C0.2.1 d_SE_reckonCostsTo_27 rfl (lv_at hl 1 rfl) ?_
    refine lv_if_eq (tgt := 42) C0.1 C0.2.1 d_SE_reckonCostsTo_28 (by decide) (fun c_28 => ?_) (fun c_28 => ?_)
    · have hex : bf_ex ak af tt ac e0 f := ⟨hi2, hi3, fun v w hw => bf_fix hi2 hi4 (hi7 (bI_0.mp c_28)) w v hw⟩
      exact eM_v C0 hr hlk f hB ⟨rfl, hex, hi4, fun v => by rcases hi5 v with q | q; exact Or.inl q; exact Or.inr (by have : r * (192 * 100000000000) ≤ 48 * (192 * 100000000000) := Nat.mul_le_mul_right _ hi1; omega)⟩ (Nat.le_refl _) (Nat.le_refl _) d_SE_reckonCostsTo_42
    · refine lv_aload_n C0.1 C0.2.1 d_SE_reckonCostsTo_31 rfl (lv_at hl 0 rfl) ?_
      refine cM (As := []) (rest := []) C0 (c_SE_lowerCosts (r * (192 * 100000000000)) hak haf htt hac hi2 hi5 (by omega)) (q_SE_127 C0.2.2.2.2.1 rfl rfl ⟨Nat.le_of_ble_eq_true rfl, Nat.le_of_ble_eq_true rfl⟩) (ci := 3) (q0 := 3) rfl rfl rfl hB hl.1 rfl rfl (Nat.le_of_ble_eq_true rfl) d_SE_reckonCostsTo_32 ⟨Nat.zero_le _, Nat.zero_le _⟩ (fun v_32 f1 H locs hp_32 hB => ?_)
      obtain ⟨rfl, hf1⟩ := hp_32
      have hB : wB g classes A s.heap (wW a t n kd em br ii oo np ea eb li rn wa wn sT sP ak ap af tt ac f1 rp rt rest L) H locs := hB
      refine W.eq (g2 := F0 m 35 ls [.int (bI (bf_ch af tt ac f ak))]) rfl ?_
      refine lv_istore_n (lv' := [(2, .int (bI (bf_ch af tt ac f ak))), (0, .ref (a 3)), (3, .int (nI r))]) C0.1 C0.2.1 d_SE_reckonCostsTo_35 rfl hl (by decide) rfl (fun ls hl => ?_)
      refine lv_iinc (v := nI (r + 1)) (lv' := [(3, .int (nI (r + 1))), (2, .int (bI (bf_ch af tt ac f ak))), (0, .ref (a 3))]) C0.1 C0.2.1 d_SE_reckonCostsTo_36 hl (k := 2) rfl (inc1 _) (by decide) rfl (fun ls hl => ?_)
      refine lv_goto (tgt := 21) C0.1 C0.2.1 d_SE_reckonCostsTo_39 (by decide) ?_
      exact ih ((r + 1), f1, (bf_ch af tt ac f ak)) (show (r + 1) ≤ 48 ∧ (∀ v, f1 v ≤ bf_far) ∧ bf_snd ak af tt ac e0 f1 ∧ f1 e0 = 0 ∧ bf_bd ((r + 1) * (192 * 100000000000)) f1 ∧ bf_cmp ak af tt ac e0 (r + 1) f1 ∧ ((bf_ch af tt ac f ak) = false → ∀ j, j < ak → f1 (tt j) ≠ bf_far → f1 (af j) ≤ f1 (tt j) + ac j) from rc_s hak hac hi2 hi3 hi4 hi5 hi6 (by omega) hf1) (show 48 - (r + 1) < 48 - r from by omega) H locs ls hB (lv_sub hl [2, 1, 0] rfl)
set_option maxHeartbeats 4000000 in
set_option maxRecDepth 100000 in
theorem c_SE_firstLeastArc (v j0 : Nat) (hv : v < 48) (hj0 : j0 < ak) (ht : bf_tight af tt ac ct v j0) (hm : ∀ i, i < j0 → ¬ bf_tight af tt ac ct v i) (hak : ak ≤ 192) (haf : ∀ j, j < ak → af j < 48) (htt : ∀ j, j < ak → tt j < 48) (hac : ∀ j, j < ak → ac j ≤ 100000000000) (hct : ∀ v, ct v ≤ bf_far) (hM : bf_bd 1000000000000000 ct) : Rd l y_SE_firstLeastArc w_SE_firstLeastArc ({ frames := 0, cells := 0, slots := 0, locals := 0 }) g classes (tyL t) [.ref (a 3), .int (nI v)] (wW a t n kd em br ii oo np ea eb li rn wa wn sT sP ak ap af tt ac ct rp rt rest L) (some (.int (nI j0))) := by
  refine Rd.of (cc := b_SE_firstLeastArc) (maxL := 5) (ret := (some .int)) (own := R_SE) (by decide) rfl rfl (Nat.le_of_ble_eq_true rfl) ?_
  intro p e s m args below meth c C0 hr hlk hP ls hl
  have hl : lv_has ls 5 [(0, .ref (a 3)), (1, .int (nI v))] := hl
  refine lv_iconst (v := nI 0) C0.1 C0.2.1 d_SE_firstLeastArc_0 (by decide) ?_
  refine lv_istore_n (lv' := [(2, .int (nI 0)), (0, .ref (a 3)), (1, .int (nI v))]) C0.1 C0.2.1 d_SE_firstLeastArc_1 rfl hl (by decide) rfl (fun ls hl => ?_)
  refine wlR (σ := Nat) (head := 2) (fun z_ => j0 + 1 - z_) (fun z_ => z_ ≤ j0) (fun z_ => [(0, .ref (a 3)), (1, .int (nI v)), (2, .int (nI z_))]) ?_ 0 (show 0 ≤ j0 from Nat.zero_le _) (lv_sub hl [1, 2, 0] rfl)
  rintro j hi ih ls hl
  have hi : j ≤ j0 := hi
  have hl : lv_has ls 5 [(0, .ref (a 3)), (1, .int (nI v)), (2, .int (nI j))] := hl
  refine lv_iload_n C0.1 C0.2.1 d_SE_firstLeastArc_2 rfl (lv_at hl 2 rfl) ?_
  refine lv_aload_n C0.1 C0.2.1 d_SE_firstLeastArc_3 rfl (lv_at hl 0 rfl) ?_
  refine gf_SE_34 C0 hP 3 rfl rfl d_SE_firstLeastArc_4 ?_
  refine lv_icmp_ge (tgt := 66) C0.1 C0.2.1 d_SE_firstLeastArc_7 (by decide) (fun c_7 => ?_) (fun c_7 => ?_)
  · exact absurd ((nI_leI (by omega) (by omega)).mp c_7) (by omega)
  · have hj : j < ak := by omega
    have hxa := haf j hj
    have hxt := htt j hj
    have hxc := hac j hj
    have h1 : ct (tt j) < 9223372036854775808 := Nat.lt_of_le_of_lt (hct (tt j)) (by decide)
    have h2 : ct v < 9223372036854775808 := Nat.lt_of_le_of_lt (hct v) (by decide)
    refine lv_aload_n C0.1 C0.2.1 d_SE_firstLeastArc_10 rfl (lv_at hl 0 rfl) ?_
    refine gf_SE_38 C0 hP 3 rfl rfl d_SE_firstLeastArc_11 ?_
    refine lv_aload_n C0.1 C0.2.1 d_SE_firstLeastArc_14 rfl (lv_at hl 0 rfl) ?_
    refine gf_SE_27 C0 hP 3 rfl rfl d_SE_firstLeastArc_15 ?_
    refine lv_iload_n C0.1 C0.2.1 d_SE_firstLeastArc_18 rfl (lv_at hl 2 rfl) ?_
    refine ald_i C0 hP 18 0 rfl rfl (by omega) (by decide) d_SE_firstLeastArc_19 ?_
    refine ald_l C0 hP 20 2 rfl rfl (by omega) (by decide) d_SE_firstLeastArc_20 ?_
    refine lv_lstore_n (lv' := [(3, .long (lN (ct (tt j)))), (0, .ref (a 3)), (1, .int (nI v)), (2, .int (nI j))]) C0.1 C0.2.1 d_SE_firstLeastArc_21 rfl hl (by decide) rfl (fun ls hl => ?_)
    refine lv_aload_n C0.1 C0.2.1 d_SE_firstLeastArc_22 rfl (lv_at hl 1 rfl) ?_
    refine gf_SE_24 C0 hP 3 rfl rfl d_SE_firstLeastArc_23 ?_
    refine lv_iload_n C0.1 C0.2.1 d_SE_firstLeastArc_26 rfl (lv_at hl 3 rfl) ?_
    refine ald_i C0 hP 17 0 rfl rfl (by omega) (by decide) d_SE_firstLeastArc_27 ?_
    refine lv_iload_n C0.1 C0.2.1 d_SE_firstLeastArc_28 rfl (lv_at hl 2 rfl) ?_
    refine lv_icmp_ne (tgt := 60) C0.1 C0.2.1 d_SE_firstLeastArc_29 (by decide) (fun c_29 => ?_) (fun c_29 => ?_)
    · have hnt : ¬ bf_tight af tt ac ct v j := fun q => c_29 (by rw [q.1])
      refine lv_iinc (v := nI (j + 1)) (lv' := [(2, .int (nI (j + 1))), (3, .long (lN (ct (tt j)))), (0, .ref (a 3)), (1, .int (nI v))]) C0.1 C0.2.1 d_SE_firstLeastArc_60 hl (k := 3) rfl (inc1 _) (by decide) rfl (fun ls hl => ?_)
      refine lv_goto (tgt := 2) C0.1 C0.2.1 d_SE_firstLeastArc_63 (by decide) ?_
      exact ih (j + 1) (show (j + 1) ≤ j0 from by have : j ≠ j0 := fun q => hnt (q ▸ ht); omega) (show j0 + 1 - (j + 1) < j0 + 1 - j from by omega) ls (lv_sub hl [2, 3, 0] rfl)
    · have e1 : af j = v := (nI_eq (by omega) (by omega)).mp c_29
      refine lv_lload_n C0.1 C0.2.1 d_SE_firstLeastArc_32 rfl (lv_at hl 0 rfl) ?_
      refine lv_ldc2 C0.1 C0.2.1 C0.2.2.2.1 (C0.2.2.2.2.1 _ k_SE_102) d_SE_firstLeastArc_33 ?_
      refine tl (show (9223372036854775807 : Int64) = lN 9223372036854775807 from rfl) ?_
      refine W.lcmp C0.1 C0.2.1 d_SE_firstLeastArc_36 ?_
      refine lv_if_eq (tgt := 60) C0.1 C0.2.1 d_SE_firstLeastArc_37 (by decide) (fun c_37 => ?_) (fun c_37 => ?_)
      · have hnt : ¬ bf_tight af tt ac ct v j := fun q => q.2.1 ((pk_lEQ (by omega) (by decide)).mp ((lg_cmp_eq _ _).mp c_37))
        refine lv_iinc (v := nI (j + 1)) (lv' := [(2, .int (nI (j + 1))), (3, .long (lN (ct (tt j)))), (0, .ref (a 3)), (1, .int (nI v))]) C0.1 C0.2.1 d_SE_firstLeastArc_60 hl (k := 3) rfl (inc1 _) (by decide) rfl (fun ls hl => ?_)
        refine lv_goto (tgt := 2) C0.1 C0.2.1 d_SE_firstLeastArc_63 (by decide) ?_
        exact ih (j + 1) (show (j + 1) ≤ j0 from by have : j ≠ j0 := fun q => hnt (q ▸ ht); omega) (show j0 + 1 - (j + 1) < j0 + 1 - j from by omega) ls (lv_sub hl [2, 3, 0] rfl)
      · have hfar : ct (tt j) ≠ bf_far := fun q => c_37 ((lg_cmp_eq _ _).mpr (by rw [q]))
        have hbd : ct (tt j) ≤ 1000000000000000 := (hM (tt j)).resolve_left hfar
        refine lv_lload_n C0.1 C0.2.1 d_SE_firstLeastArc_40 rfl (lv_at hl 0 rfl) ?_
        refine lv_aload_n C0.1 C0.2.1 d_SE_firstLeastArc_41 rfl (lv_at hl 1 rfl) ?_
        refine gf_SE_30 C0 hP 3 rfl rfl d_SE_firstLeastArc_42 ?_
        refine lv_iload_n C0.1 C0.2.1 d_SE_firstLeastArc_45 rfl (lv_at hl 3 rfl) ?_
        refine ald_l C0 hP 19 2 rfl rfl (by omega) (by decide) d_SE_firstLeastArc_46 ?_
        refine lv_ladd C0.1 C0.2.1 d_SE_firstLeastArc_47 ?_
        refine tl (show (lN (ct (tt j))) + (lN (ac j)) = lN (ct (tt j) + (ac j)) from lN_add _ _) ?_
        refine lv_aload_n C0.1 C0.2.1 d_SE_firstLeastArc_48 rfl (lv_at hl 1 rfl) ?_
        refine gf_SE_38 C0 hP 3 rfl rfl d_SE_firstLeastArc_49 ?_
        refine lv_iload_n C0.1 C0.2.1 d_SE_firstLeastArc_52 rfl (lv_at hl 2 rfl) ?_
        refine ald_l C0 hP 20 2 rfl rfl (by omega) (by decide) d_SE_firstLeastArc_53 ?_
        refine W.lcmp C0.1 C0.2.1 d_SE_firstLeastArc_54 ?_
        refine lv_if_ne (tgt := 60) C0.1 C0.2.1 d_SE_firstLeastArc_55 (by decide) (fun c_55 => ?_) (fun c_55 => ?_)
        · have hnt : ¬ bf_tight af tt ac ct v j := fun q => c_55 ((lg_cmp_eq _ _).mpr (by rw [q.2.2]))
          refine lv_iinc (v := nI (j + 1)) (lv' := [(2, .int (nI (j + 1))), (3, .long (lN (ct (tt j)))), (0, .ref (a 3)), (1, .int (nI v))]) C0.1 C0.2.1 d_SE_firstLeastArc_60 hl (k := 3) rfl (inc1 _) (by decide) rfl (fun ls hl => ?_)
          refine lv_goto (tgt := 2) C0.1 C0.2.1 d_SE_firstLeastArc_63 (by decide) ?_
          exact ih (j + 1) (show (j + 1) ≤ j0 from by have : j ≠ j0 := fun q => hnt (q ▸ ht); omega) (show j0 + 1 - (j + 1) < j0 + 1 - j from by omega) ls (lv_sub hl [2, 3, 0] rfl)
        · have e2 : ct (tt j) + ac j = ct v := (pk_lEQ (by omega) (by omega)).mp ((lg_cmp_eq _ _).mp c_55)
          have e3 : j = j0 := by
            rcases Nat.lt_or_ge j j0 with q | q
            · exact absurd ⟨e1, hfar, e2⟩ (hm j q)
            · omega
          refine lv_iload_n C0.1 C0.2.1 d_SE_firstLeastArc_58 rfl (lv_at hl 3 rfl) ?_
          exact eR_i C0 hr hlk (by rw [e3]) d_SE_firstLeastArc_59
end SEARCH2
end
section
/-! a way at the world's end; where a way's cells lie; new objects -/
theorem wy_push {t : Nat → ClassId} {L : List Wy} {x : Wy} : wy_W t (L ++ [x]) = wy_W t L ++ wy_c t x := by
  unfold wy_W
  rw [List.flatMap_append]
  simp
theorem wy_at {t : Nat → ClassId} : ∀ {L : List Wy} {i : Nat} {x : Wy}, L[i]? = some x → ∀ j, j < 3 → (wy_W t L)[3 * i + j]? = (wy_c t x)[j]?
  | [], i, x, h, j, _ => by simp at h
  | y :: L, 0, x, h, j, hj => by
    have e : y = x := by simpa using h
    subst e
    show (wy_c t y ++ wy_W t L)[3 * 0 + j]? = _
    rw [List.getElem?_append_left (by show 3 * 0 + j < 3; omega)]
    congr 1
    omega
  | y :: L, i + 1, x, h, j, hj => by
    have h1 : L[i]? = some x := by simpa using h
    show (wy_c t y ++ wy_W t L)[3 * (i + 1) + j]? = _
    rw [List.getElem?_append_right (by show 3 ≤ 3 * (i + 1) + j; omega)]
    rw [show 3 * (i + 1) + j - (wy_c t y).length = 3 * i + j from by show 3 * (i + 1) + j - 3 = _; omega]
    exact wy_at h1 j hj

theorem wW_push {a : Nat → Nat} {t : Nat → ClassId} {n : Nat} {kd : Nat → Nat} {em : Nat → Bool} {br : Nat → Bool} {ii : Nat → Int32} {oo : Nat → Int32} {np : Nat} {ea : Nat → Nat} {eb : Nat → Nat} {li : Nat → Nat} {rn : Nat → Bool} {wa : Nat → Option Nat} {wn : Nat} {sT : Nat → Bool} {sP : Nat → Bool} {ak : Nat} {ap : Nat → Nat} {af : Nat → Nat} {tt : Nat → Nat} {ac : Nat → Nat} {ct : Nat → Nat} {rp : Nat → Nat} {rt : Nat → Nat} {rest : va_W} {L : List Wy} {x : Wy} : wW a t n kd em br ii oo np ea eb li rn wa wn sT sP ak ap af tt ac ct rp rt rest (L ++ [x]) = ((wW a t n kd em br ii oo np ea eb li rn wa wn sT sP ak ap af tt ac ct rp rt rest L ++ [(x.1, .inl (t 0, x.2.2.2.2.2.2.1.length, .inl (fun j => nI (x.2.2.2.2.2.2.1.getD j 0))))]) ++ [(x.2.1, .inl (t 0, x.2.2.2.2.2.2.2.length, .inl (fun j => nI (x.2.2.2.2.2.2.2.getD j 0))))]) ++ [(x.2.2.1, .inr (4, [.int (nI x.2.2.2.1), .int (nI x.2.2.2.2.1), .long (lN x.2.2.2.2.2.1), .ref x.1, .ref x.2.1]))] := by
  unfold wW
  rw [wy_push]
  simp only [wy_c, List.append_assoc, List.cons_append, List.nil_append]
theorem wW_w0 {a : Nat → Nat} {t : Nat → ClassId} {n : Nat} {kd : Nat → Nat} {em : Nat → Bool} {br : Nat → Bool} {ii : Nat → Int32} {oo : Nat → Int32} {np : Nat} {ea : Nat → Nat} {eb : Nat → Nat} {li : Nat → Nat} {rn : Nat → Bool} {wa : Nat → Option Nat} {wn : Nat} {sT : Nat → Bool} {sP : Nat → Bool} {ak : Nat} {ap : Nat → Nat} {af : Nat → Nat} {tt : Nat → Nat} {ac : Nat → Nat} {ct : Nat → Nat} {rp : Nat → Nat} {rt : Nat → Nat} {rest : va_W} {L : List Wy} {i : Nat} {x : Wy} (h : L[i]? = some x) : (wW a t n kd em br ii oo np ea eb li rn wa wn sT sP ak ap af tt ac ct rp rt rest L)[23 + (rest.length + (3 * i + 0))]? = (wy_c t x)[0]? := by
  unfold wW
  rw [List.getElem?_append_right (by simp), show 23 + (rest.length + (3 * i + 0)) - _ = rest.length + (3 * i + 0) from by simp, List.getElem?_append_right (by omega), Nat.add_sub_cancel_left]
  exact wy_at h 0 (by decide)
theorem wW_w1 {a : Nat → Nat} {t : Nat → ClassId} {n : Nat} {kd : Nat → Nat} {em : Nat → Bool} {br : Nat → Bool} {ii : Nat → Int32} {oo : Nat → Int32} {np : Nat} {ea : Nat → Nat} {eb : Nat → Nat} {li : Nat → Nat} {rn : Nat → Bool} {wa : Nat → Option Nat} {wn : Nat} {sT : Nat → Bool} {sP : Nat → Bool} {ak : Nat} {ap : Nat → Nat} {af : Nat → Nat} {tt : Nat → Nat} {ac : Nat → Nat} {ct : Nat → Nat} {rp : Nat → Nat} {rt : Nat → Nat} {rest : va_W} {L : List Wy} {i : Nat} {x : Wy} (h : L[i]? = some x) : (wW a t n kd em br ii oo np ea eb li rn wa wn sT sP ak ap af tt ac ct rp rt rest L)[23 + (rest.length + (3 * i + 1))]? = (wy_c t x)[1]? := by
  unfold wW
  rw [List.getElem?_append_right (by simp), show 23 + (rest.length + (3 * i + 1)) - _ = rest.length + (3 * i + 1) from by simp, List.getElem?_append_right (by omega), Nat.add_sub_cancel_left]
  exact wy_at h 1 (by decide)
theorem wW_w2 {a : Nat → Nat} {t : Nat → ClassId} {n : Nat} {kd : Nat → Nat} {em : Nat → Bool} {br : Nat → Bool} {ii : Nat → Int32} {oo : Nat → Int32} {np : Nat} {ea : Nat → Nat} {eb : Nat → Nat} {li : Nat → Nat} {rn : Nat → Bool} {wa : Nat → Option Nat} {wn : Nat} {sT : Nat → Bool} {sP : Nat → Bool} {ak : Nat} {ap : Nat → Nat} {af : Nat → Nat} {tt : Nat → Nat} {ac : Nat → Nat} {ct : Nat → Nat} {rp : Nat → Nat} {rt : Nat → Nat} {rest : va_W} {L : List Wy} {i : Nat} {x : Wy} (h : L[i]? = some x) : (wW a t n kd em br ii oo np ea eb li rn wa wn sT sP ak ap af tt ac ct rp rt rest L)[23 + (rest.length + (3 * i + 2))]? = (wy_c t x)[2]? := by
  unfold wW
  rw [List.getElem?_append_right (by simp), show 23 + (rest.length + (3 * i + 2)) - _ = rest.length + (3 * i + 2) from by simp, List.getElem?_append_right (by omega), Nat.add_sub_cancel_left]
  exact wy_at h 2 (by decide)
section NEWS
variable {p : Program} {l : Launch} {e : Env} {R : Room} {s : State} {m : MethodId} {args : Array Value} {below : List Frame} {meth : Method} {c : Code} {H : Heap} {locs : List Loc} {cells slots : Nat} {Q : State → Prop}
variable {cc : ByteArray} {nL pc : Nat} {ls : Array Slot} {rest : List Value} {g : va_G} {tys : List (ClassId × FieldType)} {A : Nat → Prop} {H0 : Heap} {w w' : va_W} {x : Nat} {fs : List Value} {v : Value} {rm : Room} {mc ms : Nat}
theorem nw_LW_7 (C0 : cX p m c cc nL s args R_LW g classes tys) (hB : wB g classes A H0 w H locs) (hcells : cells + 1 ≤ R.cells) (hslots : slots + 5 ≤ R.slots) (hdg : decode cc pc = .ok (.new 7, 3)) (kk : ∀ (q : Nat) (H1 : Heap), wB g classes A H0 (w ++ [(q, .inr (0, [.null, .null, .null, .null, .int 0]))]) H1 locs → W p l e R s m args below meth c H1 locs (cells + 1) (slots + 5) Q (F0 m (pc + 3) ls (.ref q :: rest))) : W p l e R s m args below meth c H locs cells slots Q (F0 m pc ls rest) :=
  va_new (ci := 0) (fs := [.null, .null, .null, .null, .int 0]) C0.1 C0.2.1 C0.2.2.2.2.1 iw_WS t_WS t_WS_ok C0.2.2.2.1 (C0.2.2.2.2.1 _ k_LW_7) (C0.2.2.2.2.1 _ k_inst_WS) (C0.2.2.2.2.1 _ k_ini_WS) C0.2.2.2.2.2.1 hB.1 hB.2.1 hB.2.2.1 hB.2.2.2 rfl (fun j hj => by rcases (show j = 0 ∨ j = 1 ∨ j = 2 ∨ j = 3 ∨ j = 4 by omega) with rfl | rfl | rfl | rfl | rfl <;> rfl) hcells hslots hdg (fun q H1 hP hD hS => kk q H1 ⟨hP, hD, hS, hB.2.2.2⟩)
theorem nw_WS_7 (C0 : cX p m c cc nL s args R_WS g classes tys) (hB : wB g classes A H0 w H locs) (hcells : cells + 1 ≤ R.cells) (hslots : slots + 6 ≤ R.slots) (hdg : decode cc pc = .ok (.new 7, 3)) (kk : ∀ (q : Nat) (H1 : Heap), wB g classes A H0 (w ++ [(q, .inr (1, [.null, .null, .null, .null, .null, .int 0]))]) H1 locs → W p l e R s m args below meth c H1 locs (cells + 1) (slots + 6) Q (F0 m (pc + 3) ls (.ref q :: rest))) : W p l e R s m args below meth c H locs cells slots Q (F0 m pc ls rest) :=
  va_new (ci := 1) (fs := [.null, .null, .null, .null, .null, .int 0]) C0.1 C0.2.1 C0.2.2.2.2.1 iw_TH t_TH t_TH_ok C0.2.2.2.1 (C0.2.2.2.2.1 _ k_WS_7) (C0.2.2.2.2.1 _ k_inst_TH) (C0.2.2.2.2.1 _ k_ini_TH) C0.2.2.2.2.2.1 hB.1 hB.2.1 hB.2.2.1 hB.2.2.2 rfl (fun j hj => by rcases (show j = 0 ∨ j = 1 ∨ j = 2 ∨ j = 3 ∨ j = 4 ∨ j = 5 by omega) with rfl | rfl | rfl | rfl | rfl | rfl <;> rfl) hcells hslots hdg (fun q H1 hP hD hS => kk q H1 ⟨hP, hD, hS, hB.2.2.2⟩)
theorem nw_WS_16 (C0 : cX p m c cc nL s args R_WS g classes tys) (hB : wB g classes A H0 w H locs) (hcells : cells + 1 ≤ R.cells) (hslots : slots + 5 ≤ R.slots) (hdg : decode cc pc = .ok (.new 16, 3)) (kk : ∀ (q : Nat) (H1 : Heap), wB g classes A H0 (w ++ [(q, .inr (2, [.null, .null, .null, .null, .int 0]))]) H1 locs → W p l e R s m args below meth c H1 locs (cells + 1) (slots + 5) Q (F0 m (pc + 3) ls (.ref q :: rest))) : W p l e R s m args below meth c H locs cells slots Q (F0 m pc ls rest) :=
  va_new (ci := 2) (fs := [.null, .null, .null, .null, .int 0]) C0.1 C0.2.1 C0.2.2.2.2.1 iw_PI t_PI t_PI_ok C0.2.2.2.1 (C0.2.2.2.2.1 _ k_WS_16) (C0.2.2.2.2.1 _ k_inst_PI) (C0.2.2.2.2.1 _ k_ini_PI) C0.2.2.2.2.2.1 hB.1 hB.2.1 hB.2.2.1 hB.2.2.2 rfl (fun j hj => by rcases (show j = 0 ∨ j = 1 ∨ j = 2 ∨ j = 3 ∨ j = 4 by omega) with rfl | rfl | rfl | rfl | rfl <;> rfl) hcells hslots hdg (fun q H1 hP hD hS => kk q H1 ⟨hP, hD, hS, hB.2.2.2⟩)
theorem nw_WS_23 (C0 : cX p m c cc nL s args R_WS g classes tys) (hB : wB g classes A H0 w H locs) (hcells : cells + 1 ≤ R.cells) (hslots : slots + 12 ≤ R.slots) (hdg : decode cc pc = .ok (.new 23, 3)) (kk : ∀ (q : Nat) (H1 : Heap), wB g classes A H0 (w ++ [(q, .inr (3, [.null, .null, .null, .null, .null, .null, .null, .null, .int 0, .null, .null, .null]))]) H1 locs → W p l e R s m args below meth c H1 locs (cells + 1) (slots + 12) Q (F0 m (pc + 3) ls (.ref q :: rest))) : W p l e R s m args below meth c H locs cells slots Q (F0 m pc ls rest) :=
  va_new (ci := 3) (fs := [.null, .null, .null, .null, .null, .null, .null, .null, .int 0, .null, .null, .null]) C0.1 C0.2.1 C0.2.2.2.2.1 iw_SE t_SE t_SE_ok C0.2.2.2.1 (C0.2.2.2.2.1 _ k_WS_23) (C0.2.2.2.2.1 _ k_inst_SE) (C0.2.2.2.2.1 _ k_ini_SE) C0.2.2.2.2.2.1 hB.1 hB.2.1 hB.2.2.1 hB.2.2.2 rfl (fun j hj => by rcases (show j = 0 ∨ j = 1 ∨ j = 2 ∨ j = 3 ∨ j = 4 ∨ j = 5 ∨ j = 6 ∨ j = 7 ∨ j = 8 ∨ j = 9 ∨ j = 10 ∨ j = 11 by omega) with rfl | rfl | rfl | rfl | rfl | rfl | rfl | rfl | rfl | rfl | rfl | rfl <;> rfl) hcells hslots hdg (fun q H1 hP hD hS => kk q H1 ⟨hP, hD, hS, hB.2.2.2⟩)
theorem nw_SE_84 (C0 : cX p m c cc nL s args R_SE g classes tys) (hB : wB g classes A H0 w H locs) (hcells : cells + 1 ≤ R.cells) (hslots : slots + 5 ≤ R.slots) (hdg : decode cc pc = .ok (.new 84, 3)) (kk : ∀ (q : Nat) (H1 : Heap), wB g classes A H0 (w ++ [(q, .inr (4, [.int 0, .int 0, .long 0, .null, .null]))]) H1 locs → W p l e R s m args below meth c H1 locs (cells + 1) (slots + 5) Q (F0 m (pc + 3) ls (.ref q :: rest))) : W p l e R s m args below meth c H locs cells slots Q (F0 m pc ls rest) :=
  va_new (ci := 4) (fs := [.int 0, .int 0, .long 0, .null, .null]) C0.1 C0.2.1 C0.2.2.2.2.1 iw_FW t_FW t_FW_ok C0.2.2.2.1 (C0.2.2.2.2.1 _ k_SE_84) (C0.2.2.2.2.1 _ k_inst_FW) (C0.2.2.2.2.1 _ k_ini_FW) C0.2.2.2.2.2.1 hB.1 hB.2.1 hB.2.2.1 hB.2.2.2 rfl (fun j hj => by rcases (show j = 0 ∨ j = 1 ∨ j = 2 ∨ j = 3 ∨ j = 4 by omega) with rfl | rfl | rfl | rfl | rfl <;> rfl) hcells hslots hdg (fun q H1 hP hD hS => kk q H1 ⟨hP, hD, hS, hB.2.2.2⟩)
theorem nw_LW_10 (C0 : cX p m c cc nL s args R_LW g classes tys) (hB : wB g classes A H0 w H locs) (hcells : cells + 1 ≤ R.cells) (hslots : slots + 21 ≤ R.slots) (hdg : decode cc pc = .ok (.new 10, 3)) (kk : ∀ (q : Nat) (H1 : Heap), wB g classes A H0 (w ++ [(q, .inr (5, [.null, .null, .null, .null, .null, .int 0, .null, .null, .null, .null, .int 0, .null, .null, .null, .null, .int 0, .null, .null, .null, .null, .null]))]) H1 locs → W p l e R s m args below meth c H1 locs (cells + 1) (slots + 21) Q (F0 m (pc + 3) ls (.ref q :: rest))) : W p l e R s m args below meth c H locs cells slots Q (F0 m pc ls rest) :=
  va_new (ci := 5) (fs := [.null, .null, .null, .null, .null, .int 0, .null, .null, .null, .null, .int 0, .null, .null, .null, .null, .int 0, .null, .null, .null, .null, .null]) C0.1 C0.2.1 C0.2.2.2.2.1 iw_MO t_MO t_MO_ok C0.2.2.2.1 (C0.2.2.2.2.1 _ k_LW_10) (C0.2.2.2.2.1 _ k_inst_MO) (C0.2.2.2.2.1 _ k_ini_MO) C0.2.2.2.2.2.1 hB.1 hB.2.1 hB.2.2.1 hB.2.2.2 rfl (fun j hj => by rcases (show j = 0 ∨ j = 1 ∨ j = 2 ∨ j = 3 ∨ j = 4 ∨ j = 5 ∨ j = 6 ∨ j = 7 ∨ j = 8 ∨ j = 9 ∨ j = 10 ∨ j = 11 ∨ j = 12 ∨ j = 13 ∨ j = 14 ∨ j = 15 ∨ j = 16 ∨ j = 17 ∨ j = 18 ∨ j = 19 ∨ j = 20 by omega) with rfl | rfl | rfl | rfl | rfl | rfl | rfl | rfl | rfl | rfl | rfl | rfl | rfl | rfl | rfl | rfl | rfl | rfl | rfl | rfl | rfl <;> rfl) hcells hslots hdg (fun q H1 hP hD hS => kk q H1 ⟨hP, hD, hS, hB.2.2.2⟩)
end NEWS
theorem map_gD {ap : Nat → Nat} {Wl : List Nat} {k : Nat} (h : k < Wl.length) : (Wl.map ap).getD k 0 = ap (Wl.getD k 0) := by
  simp [List.getD, h]
/-- what the class's search says of a graph: the costs are exact; the way, if there is one, is the walk by the first tight arcs -/
def cLW (kd : Nat → Nat) (ii oo : Nat → Int32) (np : Nat) (ea eb li : Nat → Nat) (sT sP : Nat → Bool) (u0 e0 : Nat) (x : Option (Nat × List Nat × List Nat)) : Prop :=
  ∃ (k : Nat) (ap af tt ac c : Nat → Nat), Arcs kd ii oo ea eb li sT sP e0 np k ap af tt ac ∧ bf_ex k af tt ac e0 c ∧ c e0 = 0 ∧ ((x = none ∧ c u0 = bf_far) ∨ (c u0 ≠ bf_far ∧ ∃ Wl, bf_fw k af tt ac c e0 u0 Wl ∧ Wl.length < 48 ∧ x = some (c u0 / 64, Wl.map ap, bf_nodes tt u0 Wl)))
theorem Arcs_bd {kd : Nat → Nat} {ii oo : Nat → Int32} {ea eb li : Nat → Nat} {sT sP : Nat → Bool} {e np k n : Nat} {ap af tt ac : Nat → Nat} (h : Arcs kd ii oo ea eb li sT sP e np k ap af tt ac) (hnp : np ≤ 96) (hn : n ≤ 48) (hea : ∀ j, j < np → ea j < n) (heb : ∀ j, j < np → eb j < n) (hli : ∀ j, j < np → 1 ≤ li j ∧ li j ≤ 1000000000) : k ≤ 192 ∧ (∀ j, j < k → af j < 48) ∧ (∀ j, j < k → tt j < 48) ∧ (∀ j, j < k → ac j ≤ 100000000000) ∧ (∀ j, j < k → 0 < ac j) ∧ ∀ j, j < k → ap j < np := by
  obtain ⟨h1, h2, -⟩ := h
  have hv : ∀ v, valv kd v ≤ 1 := fun v => by unfold valv; split <;> omega
  refine ⟨by omega, fun j hj => ?_, fun j hj => ?_, fun j hj => ?_, fun j hj => ?_, fun j hj => (h2 j hj).1⟩
  · obtain ⟨a1, -, a2, -⟩ := h2 j hj
    have b1 := hea _ a1
    have b2 := heb _ a1
    rcases a2 with a2 | a2 <;> omega
  · obtain ⟨a1, -, a2, -⟩ := h2 j hj
    have b1 := hea _ a1
    have b2 := heb _ a1
    rcases a2 with a2 | a2 <;> omega
  · obtain ⟨a1, -, -, -, a2⟩ := h2 j hj
    have := hli _ a1
    have := hv (tt j)
    omega
  · obtain ⟨a1, -, -, -, a2⟩ := h2 j hj
    have := hli _ a1
    omega
end
section
section SEARCH3
variable {l : Launch} {g : va_G} {t : Nat → ClassId} {a : Nat → Nat} {n : Nat} {kd : Nat → Nat} {em : Nat → Bool} {br : Nat → Bool} {ii : Nat → Int32} {oo : Nat → Int32} {np : Nat} {ea : Nat → Nat} {eb : Nat → Nat} {li : Nat → Nat} {rn : Nat → Bool} {wa : Nat → Option Nat} {wn : Nat} {sT : Nat → Bool} {sP : Nat → Bool} {ak : Nat} {ap : Nat → Nat} {af : Nat → Nat} {tt : Nat → Nat} {ac : Nat → Nat} {ct : Nat → Nat} {rp : Nat → Nat} {rt : Nat → Nat} {rest : va_W} {L : List Wy}
set_option maxHeartbeats 4000000 in
set_option maxRecDepth 100000 in
theorem c_SE_followLeast (u0 e0 : Nat) (Wl : List Nat) (hu0 : u0 < 48) (he0 : e0 < 48) (hW : bf_fw ak af tt ac ct e0 u0 Wl) (hlen : Wl.length < 48) (hnd : ∀ j, (bf_nodes tt u0 Wl).getD j 0 < 48) (hak : ak ≤ 192) (haf : ∀ j, j < ak → af j < 48) (htt : ∀ j, j < ak → tt j < 48) (hac : ∀ j, j < ak → ac j ≤ 100000000000) (hct : ∀ v, ct v ≤ bf_far) (hM : bf_bd 1000000000000000 ct) : Mt l y_SE_followLeast w_SE_followLeast ({ frames := 2, cells := 3, slots := 100, locals := 82 }) g classes (tyL t) [.ref (a 3), .int (nI u0), .int (nI e0)] (wW a t n kd em br ii oo np ea eb li rn wa wn sT sP ak ap af tt ac ct rp rt rest L) (S := Nat × Nat × Nat × (Nat → Nat) × (Nat → Nat)) (fun v z => v = some (.ref z.2.2.1)) (fun z => (wW a t n kd em br ii oo np ea eb li rn wa wn sT sP ak ap af tt ac ct z.2.2.2.1 z.2.2.2.2 rest (L ++ [(z.1, z.2.1, z.2.2.1, u0, e0, ct u0 / 64, Wl.map ap, (bf_nodes tt u0 Wl))]))) 3 100 := by
  refine Mt.of (cc := b_SE_followLeast) (maxL := 9) (ret := (some (.object "WaySearch$FoundWay"))) (own := R_SE) (by decide) rfl rfl (Nat.le_of_ble_eq_true rfl) ?_
  intro p e s m args below meth c C0 hr hlk hin A hA hB ls hl
  have hl : lv_has ls 9 [(0, .ref (a 3)), (1, .int (nI u0)), (2, .int (nI e0))] := hl
  refine lv_iload_n C0.1 C0.2.1 d_SE_followLeast_0 rfl (lv_at hl 1 rfl) ?_
  refine lv_istore_n (lv' := [(3, .int (nI u0)), (0, .ref (a 3)), (1, .int (nI u0)), (2, .int (nI e0))]) C0.1 C0.2.1 d_SE_followLeast_1 rfl hl (by decide) rfl (fun ls hl => ?_)
  refine lv_iconst (v := nI 0) C0.1 C0.2.1 d_SE_followLeast_2 (by decide) ?_
  refine lv_istore (lv' := [(4, .int (nI 0)), (3, .int (nI u0)), (0, .ref (a 3)), (1, .int (nI u0)), (2, .int (nI e0))]) C0.1 C0.2.1 d_SE_followLeast_3 hl (by decide) rfl (fun ls hl => ?_)
  refine lv_aload_n C0.1 C0.2.1 d_SE_followLeast_5 rfl (lv_at hl 2 rfl) ?_
  refine gf_SE_44 C0 hB.1 3 rfl rfl d_SE_followLeast_6 ?_
  refine lv_iconst (v := nI 0) C0.1 C0.2.1 d_SE_followLeast_9 (by decide) ?_
  refine lv_iload_n C0.1 C0.2.1 d_SE_followLeast_10 rfl (lv_at hl 3 rfl) ?_
  refine ast_i (w' := (wW a t n kd em br ii oo np ea eb li rn wa wn sT sP ak ap af tt ac ct rp (va_up rt 0 u0) rest L)) C0 hB 22 0 rfl rfl (by omega) (by decide) up_nI rfl d_SE_followLeast_11 (fun H locs hB => ?_)
  refine wlM (σ := Nat × (Nat → Nat) × (Nat → Nat)) (head := 12) (fun z_ => Wl.length - z_.1) (fun z_ => z_.1 ≤ Wl.length ∧ (∀ j, j < z_.1 → z_.2.1 j = (Wl.map ap).getD j 0) ∧ ∀ j, j ≤ z_.1 → z_.2.2 j = (bf_nodes tt u0 Wl).getD j 0) (fun z_ => (wW a t n kd em br ii oo np ea eb li rn wa wn sT sP ak ap af tt ac ct z_.2.1 z_.2.2 rest L)) (fun z_ => [(0, .ref (a 3)), (1, .int (nI u0)), (2, .int (nI e0)), (3, .int (nI ((bf_nodes tt u0 Wl).getD z_.1 0))), (4, .int (nI z_.1))]) ?_ (0, rp, (va_up rt 0 u0)) (show 0 ≤ Wl.length ∧ (∀ j, j < 0 → rp j = (Wl.map ap).getD j 0) ∧ ∀ j, j ≤ 0 → (va_up rt 0 u0) j = (bf_nodes tt u0 Wl).getD j 0 from ⟨Nat.zero_le _, fun j h => absurd h (Nat.not_lt_zero _), fun j h => by rw [show j = 0 by omega, va_up_self]; rfl⟩) hB (lv_sub hl [2, 3, 4, 1, 0] rfl)
  rintro ⟨k, r, q⟩ hi ih H locs ls hB hl
  have hi : k ≤ Wl.length ∧ (∀ j, j < k → r j = (Wl.map ap).getD j 0) ∧ ∀ j, j ≤ k → q j = (bf_nodes tt u0 Wl).getD j 0 := hi
  obtain ⟨hi1, hi2, hi3⟩ := hi
  have hl : lv_has ls 9 [(0, .ref (a 3)), (1, .int (nI u0)), (2, .int (nI e0)), (3, .int (nI ((bf_nodes tt u0 Wl).getD k 0))), (4, .int (nI k))] := hl
  have hB : wB g classes A s.heap (wW a t n kd em br ii oo np ea eb li rn wa wn sT sP ak ap af tt ac ct r q rest L) H locs := hB
  refine lv_iload_n C0.1 C0.2.1 d_SE_followLeast_12 rfl (lv_at hl 3 rfl) ?_
  refine lv_iload_n C0.1 C0.2.1 d_SE_followLeast_13 rfl (lv_at hl 2 rfl) ?_
  refine lv_icmp_eq (tgt := 75) C0.1 C0.2.1 d_SE_followLeast_14 (by decide) (fun c_14 => ?_) (fun c_14 => ?_)
  · have hkW : k = Wl.length := by
      rcases Nat.lt_or_ge k Wl.length with z | z
      · exact absurd ((nI_eq (by have := hnd k; omega) (by omega)).mp c_14) (bf_fw_at Wl u0 k hW z).1
      · omega
    have hkl : k = (Wl.map ap).length := by rw [List.length_map]; exact hkW
    have hl1 : (Wl.map ap).length = Wl.length := List.length_map ..
    have hl2 : (bf_nodes tt u0 Wl).length = Wl.length + 1 := bf_nodes_len u0 Wl
    subst hkl
    refine lv_aload_n C0.1 C0.2.1 d_SE_followLeast_75 rfl (lv_at hl 0 rfl) ?_
    refine gf_SE_38 C0 hB.1 3 rfl rfl d_SE_followLeast_76 ?_
    refine lv_iload_n C0.1 C0.2.1 d_SE_followLeast_79 rfl (lv_at hl 1 rfl) ?_
    refine ald_l C0 hB.1 20 2 rfl rfl (by omega) (by decide) d_SE_followLeast_80 ?_
    refine lv_ldc2 C0.1 C0.2.1 C0.2.2.2.1 (C0.2.2.2.2.1 _ k_SE_119) d_SE_followLeast_81 ?_
    refine tl (show (64 : Int64) = lN 64 from rfl) ?_
    refine lv_ldiv C0.1 C0.2.1 d_SE_followLeast_84 (by decide) ?_
    refine tl (show (lN (ct u0)) / (lN 64) = lN (ct u0 / 64) from pk_lDiv (Nat.lt_of_le_of_lt (hct u0) (by decide)) (by decide) (by decide)) ?_
    refine lv_lstore (lv' := [(5, .long (lN (ct u0 / 64))), (0, .ref (a 3)), (1, .int (nI u0)), (2, .int (nI e0)), (3, .int (nI ((bf_nodes tt u0 Wl).getD ((Wl.map ap).length) 0))), (4, .int (nI (Wl.map ap).length))]) C0.1 C0.2.1 d_SE_followLeast_85 hl (by decide) rfl (fun ls hl => ?_)
    refine lv_aload_n C0.1 C0.2.1 d_SE_followLeast_87 rfl (lv_at hl 1 rfl) ?_
    refine gf_SE_41 C0 hB.1 3 rfl rfl d_SE_followLeast_88 ?_
    refine lv_iload C0.1 C0.2.1 d_SE_followLeast_91 (lv_at hl 5 rfl) ?_
    refine cMS (As := [.ref (a 21), .int (nI (Wl.map ap).length)]) (rest := []) C0 (c_AR_copyOf 21 (a 21) 48 (Wl.map ap).length (fun j => nI (r j)) (fun j => nI ((Wl.map ap).getD j 0)) rfl (by decide) (by omega) (fun j hj => by rw [hi2 j hj])) (q_SE_135 C0.2.2.2.2.1 rfl rfl ⟨Nat.le_of_ble_eq_true rfl, Nat.le_of_ble_eq_true rfl⟩) hB hl.1 rfl rfl (Nat.le_of_ble_eq_true rfl) d_SE_followLeast_93 ⟨Nat.le_of_ble_eq_true rfl, (show 0 + (Wl.map ap).length ≤ 100 by omega)⟩ (fun v_93 q1 H locs hp_93 hB => ?_)
    obtain rfl := hp_93
    have hB : wB g classes A s.heap ((wW a t n kd em br ii oo np ea eb li rn wa wn sT sP ak ap af tt ac ct r q rest L) ++ [(q1, .inl (t 0, (Wl.map ap).length, .inl (fun j => nI ((Wl.map ap).getD j 0))))]) H locs := hB
    refine W.eq (g2 := F0 m 96 ls [.ref q1]) rfl ?_
    refine lv_astore (lv' := [(7, .ref q1), (5, .long (lN (ct u0 / 64))), (0, .ref (a 3)), (1, .int (nI u0)), (2, .int (nI e0)), (3, .int (nI ((bf_nodes tt u0 Wl).getD ((Wl.map ap).length) 0))), (4, .int (nI (Wl.map ap).length))]) C0.1 C0.2.1 d_SE_followLeast_96 hl (by decide) rfl (fun ls hl => ?_)
    refine lv_aload_n C0.1 C0.2.1 d_SE_followLeast_98 rfl (lv_at hl 2 rfl) ?_
    refine gf_SE_44 C0 hB.1 3 rfl rfl d_SE_followLeast_99 ?_
    refine lv_iload C0.1 C0.2.1 d_SE_followLeast_102 (lv_at hl 6 rfl) ?_
    refine lv_iconst (v := nI 1) C0.1 C0.2.1 d_SE_followLeast_104 (by decide) ?_
    refine lv_iadd C0.1 C0.2.1 d_SE_followLeast_105 ?_
    refine ti (show (nI (Wl.map ap).length) + (nI 1) = nI (bf_nodes tt u0 Wl).length from by rw [nI_add, hl1, hl2]) ?_
    refine cMS (As := [.ref (a 22), .int (nI (bf_nodes tt u0 Wl).length)]) (rest := []) C0 (c_AR_copyOf 22 (a 22) 48 (bf_nodes tt u0 Wl).length (fun j => nI (q j)) (fun j => nI ((bf_nodes tt u0 Wl).getD j 0)) rfl (by decide) (by omega) (fun j hj => by rw [hi3 j (by omega)])) (q_SE_135 C0.2.2.2.2.1 rfl rfl ⟨Nat.le_of_ble_eq_true rfl, Nat.le_of_ble_eq_true rfl⟩) hB hl.1 rfl rfl (Nat.le_of_ble_eq_true rfl) d_SE_followLeast_106 ⟨Nat.le_of_ble_eq_true rfl, (show 0 + (Wl.map ap).length + (bf_nodes tt u0 Wl).length ≤ 100 by omega)⟩ (fun v_106 q2 H locs hp_106 hB => ?_)
    obtain rfl := hp_106
    have hB : wB g classes A s.heap (((wW a t n kd em br ii oo np ea eb li rn wa wn sT sP ak ap af tt ac ct r q rest L) ++ [(q1, .inl (t 0, (Wl.map ap).length, .inl (fun j => nI ((Wl.map ap).getD j 0))))]) ++ [(q2, .inl (t 0, (bf_nodes tt u0 Wl).length, .inl (fun j => nI ((bf_nodes tt u0 Wl).getD j 0))))]) H locs := hB
    refine W.eq (g2 := F0 m 109 ls [.ref q2]) rfl ?_
    refine lv_astore (lv' := [(8, .ref q2), (7, .ref q1), (5, .long (lN (ct u0 / 64))), (0, .ref (a 3)), (1, .int (nI u0)), (2, .int (nI e0)), (3, .int (nI ((bf_nodes tt u0 Wl).getD ((Wl.map ap).length) 0))), (4, .int (nI (Wl.map ap).length))]) C0.1 C0.2.1 d_SE_followLeast_109 hl (by decide) rfl (fun ls hl => ?_)
    refine nw_SE_84 C0 hB (Nat.le_of_ble_eq_true rfl) (show 0 + (Wl.map ap).length + (bf_nodes tt u0 Wl).length + 5 ≤ 100 by omega) d_SE_followLeast_111 (fun q3 H hB => ?_)
    refine lv_dup C0.1 C0.2.1 d_SE_followLeast_114 rfl ?_
    refine lv_iload_n C0.1 C0.2.1 d_SE_followLeast_115 rfl (lv_at hl 4 rfl) ?_
    refine lv_iload_n C0.1 C0.2.1 d_SE_followLeast_116 rfl (lv_at hl 5 rfl) ?_
    refine lv_lload C0.1 C0.2.1 d_SE_followLeast_117 (lv_at hl 2 rfl) ?_
    refine lv_aload C0.1 C0.2.1 d_SE_followLeast_119 (lv_at hl 1 rfl) ?_
    refine lv_aload C0.1 C0.2.1 d_SE_followLeast_121 (lv_at hl 0 rfl) ?_
    refine cMI (As := [.int (nI u0), .int (nI e0), .long (lN (ct u0 / 64)), .ref q1, .ref q2]) (rest := [.ref q3]) C0 (c_FW_init q3 (nI u0) (nI e0) (lN (ct u0 / 64)) q1 q2) (q_SE_139 C0.2.2.2.2.1 rfl rfl ⟨Nat.le_of_ble_eq_true rfl, Nat.le_of_ble_eq_true rfl⟩) hB hl.1 rfl rfl (Nat.le_of_ble_eq_true rfl) d_SE_followLeast_123 ⟨Nat.le_of_ble_eq_true rfl, (show 0 + (Wl.map ap).length + (bf_nodes tt u0 Wl).length + 5 + 0 ≤ 100 by omega)⟩ (fun v_123 u_123 H locs hp_123 hB => ?_)
    obtain rfl := hp_123
    have hB : wB g classes A s.heap ((((wW a t n kd em br ii oo np ea eb li rn wa wn sT sP ak ap af tt ac ct r q rest L) ++ [(q1, .inl (t 0, (Wl.map ap).length, .inl (fun j => nI ((Wl.map ap).getD j 0))))]) ++ [(q2, .inl (t 0, (bf_nodes tt u0 Wl).length, .inl (fun j => nI ((bf_nodes tt u0 Wl).getD j 0))))]) ++ [(q3, .inr (4, [.int (nI u0), .int (nI e0), .long (lN (ct u0 / 64)), .ref q1, .ref q2]))]) H locs := hB
    refine W.eq (g2 := F0 m 126 ls [.ref q3]) rfl ?_
    have hB : wB g classes A s.heap (wW a t n kd em br ii oo np ea eb li rn wa wn sT sP ak ap af tt ac ct r q rest (L ++ [(q1, q2, q3, u0, e0, ct u0 / 64, Wl.map ap, (bf_nodes tt u0 Wl))])) H locs := by rw [wW_push]; exact hB
    exact eM_a C0 hr (Or.inl ⟨_, rfl⟩) hlk (q1, q2, q3, r, q) (Or.inr ⟨_, rfl⟩) hB rfl (Nat.le_of_ble_eq_true rfl) (show 0 + (Wl.map ap).length + (bf_nodes tt u0 Wl).length + 5 + 0 ≤ 100 by omega) d_SE_followLeast_126
  · have hk1 : k < Wl.length := by
      rcases Nat.lt_or_ge k Wl.length with z | z
      · exact z
      · exact absurd (by rw [show k = Wl.length by omega, bf_fw_end Wl u0 hW]) c_14
    obtain ⟨g1, g2, g3, g4⟩ := bf_fw_at Wl u0 k hW hk1
    refine lv_iload C0.1 C0.2.1 d_SE_followLeast_17 (lv_at hl 4 rfl) ?_
    refine lv_bipush (v := nI 47) C0.1 C0.2.1 d_SE_followLeast_19 (by decide) ?_
    refine lv_icmp_ge (tgt := 75) C0.1 C0.2.1 d_SE_followLeast_21 (by decide) (fun c_21 => ?_) (fun c_21 => ?_)
    · exact absurd ((nI_leI (by omega) (by omega)).mp c_21) (by omega)
    · refine lv_aload_n C0.1 C0.2.1 d_SE_followLeast_24 rfl (lv_at hl 0 rfl) ?_
      refine lv_iload_n C0.1 C0.2.1 d_SE_followLeast_25 rfl (lv_at hl 3 rfl) ?_
      refine cR (As := [.int (nI ((bf_nodes tt u0 Wl).getD k 0))]) (rest := []) C0 (c_SE_firstLeastArc ((bf_nodes tt u0 Wl).getD k 0) (Wl.getD k 0) (hnd k) g2 g3 g4 hak haf htt hac hct hM) (q_SE_131 C0.2.2.2.2.1 rfl rfl ⟨Nat.le_of_ble_eq_true rfl, Nat.le_of_ble_eq_true rfl⟩) (ci := 3) (q0 := 3) rfl rfl rfl hB.1 hl.1 rfl rfl (Nat.le_of_ble_eq_true rfl) d_SE_followLeast_26 ⟨Nat.zero_le _, Nat.zero_le _⟩ ?_
      refine W.eq (g2 := F0 m 29 ls [.int (nI (Wl.getD k 0))]) rfl ?_
      refine lv_istore (lv' := [(5, .int (nI (Wl.getD k 0))), (0, .ref (a 3)), (1, .int (nI u0)), (2, .int (nI e0)), (3, .int (nI ((bf_nodes tt u0 Wl).getD k 0))), (4, .int (nI k))]) C0.1 C0.2.1 d_SE_followLeast_29 hl (by decide) rfl (fun ls hl => ?_)
      refine lv_iload C0.1 C0.2.1 d_SE_followLeast_31 (lv_at hl 0 rfl) ?_
      refine lv_iconst (v := -1) C0.1 C0.2.1 d_SE_followLeast_33 (by decide) ?_
      refine lv_icmp_ne (tgt := 39) C0.1 C0.2.1 d_SE_followLeast_34 (by decide) (fun c_34 => ?_) (fun c_34 => ?_)
      · refine lv_aload_n C0.1 C0.2.1 d_SE_followLeast_39 rfl (lv_at hl 1 rfl) ?_
        refine gf_SE_27 C0 hB.1 3 rfl rfl d_SE_followLeast_40 ?_
        refine lv_iload C0.1 C0.2.1 d_SE_followLeast_43 (lv_at hl 0 rfl) ?_
        refine ald_i C0 hB.1 18 0 rfl rfl (by omega) (by decide) d_SE_followLeast_45 ?_
        refine ti (show nI (tt (Wl.getD k 0)) = nI ((bf_nodes tt u0 Wl).getD (k + 1) 0) from by rw [bf_nodes_s hk1]) ?_
        refine lv_istore_n (lv' := [(3, .int (nI ((bf_nodes tt u0 Wl).getD (k + 1) 0))), (5, .int (nI (Wl.getD k 0))), (0, .ref (a 3)), (1, .int (nI u0)), (2, .int (nI e0)), (4, .int (nI k))]) C0.1 C0.2.1 d_SE_followLeast_46 rfl hl (by decide) rfl (fun ls hl => ?_)
        refine lv_aload_n C0.1 C0.2.1 d_SE_followLeast_47 rfl (lv_at hl 2 rfl) ?_
        refine gf_SE_41 C0 hB.1 3 rfl rfl d_SE_followLeast_48 ?_
        refine lv_iload C0.1 C0.2.1 d_SE_followLeast_51 (lv_at hl 5 rfl) ?_
        refine lv_aload_n C0.1 C0.2.1 d_SE_followLeast_53 rfl (lv_at hl 2 rfl) ?_
        refine gf_SE_20 C0 hB.1 3 rfl rfl d_SE_followLeast_54 ?_
        refine lv_iload C0.1 C0.2.1 d_SE_followLeast_57 (lv_at hl 1 rfl) ?_
        refine ald_i C0 hB.1 16 0 rfl rfl (by omega) (by decide) d_SE_followLeast_59 ?_
        refine ast_i (w' := (wW a t n kd em br ii oo np ea eb li rn wa wn sT sP ak ap af tt ac ct (va_up r k (ap (Wl.getD k 0))) q rest L)) C0 hB 21 0 rfl rfl (by omega) (by decide) up_nI rfl d_SE_followLeast_60 (fun H locs hB => ?_)
        refine lv_iinc (v := nI (k + 1)) (lv' := [(4, .int (nI (k + 1))), (3, .int (nI ((bf_nodes tt u0 Wl).getD (k + 1) 0))), (5, .int (nI (Wl.getD k 0))), (0, .ref (a 3)), (1, .int (nI u0)), (2, .int (nI e0))]) C0.1 C0.2.1 d_SE_followLeast_61 hl (k := 5) rfl (inc1 _) (by decide) rfl (fun ls hl => ?_)
        refine lv_aload_n C0.1 C0.2.1 d_SE_followLeast_64 rfl (lv_at hl 3 rfl) ?_
        refine gf_SE_44 C0 hB.1 3 rfl rfl d_SE_followLeast_65 ?_
        refine lv_iload C0.1 C0.2.1 d_SE_followLeast_68 (lv_at hl 0 rfl) ?_
        refine lv_iload_n C0.1 C0.2.1 d_SE_followLeast_70 rfl (lv_at hl 1 rfl) ?_
        refine ast_i (w' := (wW a t n kd em br ii oo np ea eb li rn wa wn sT sP ak ap af tt ac ct (va_up r k (ap (Wl.getD k 0))) (va_up q (k + 1) ((bf_nodes tt u0 Wl).getD (k + 1) 0)) rest L)) C0 hB 22 0 rfl rfl (by omega) (by decide) up_nI rfl d_SE_followLeast_71 (fun H locs hB => ?_)
        refine lv_goto (tgt := 12) C0.1 C0.2.1 d_SE_followLeast_72 (by decide) ?_
        exact ih ((k + 1), (va_up r k (ap (Wl.getD k 0))), (va_up q (k + 1) ((bf_nodes tt u0 Wl).getD (k + 1) 0))) (show (k + 1) ≤ Wl.length ∧ (∀ j, j < (k + 1) → (va_up r k (ap (Wl.getD k 0))) j = (Wl.map ap).getD j 0) ∧ ∀ j, j ≤ (k + 1) → (va_up q (k + 1) ((bf_nodes tt u0 Wl).getD (k + 1) 0)) j = (bf_nodes tt u0 Wl).getD j 0 from ⟨by omega, lt_s (fun j hj => by rw [va_up_ne _ _ (show j ≠ k by omega)]; exact hi2 j hj) (by rw [va_up_self, map_gD hk1]), fun j hj => by rcases Nat.lt_or_ge k j with z | z; rw [show j = k + 1 by omega, va_up_self]; rw [va_up_ne _ _ (show j ≠ k + 1 by omega)]; exact hi3 j z⟩) (show Wl.length - (k + 1) < Wl.length - k from by omega) H locs ls hB (lv_sub hl [3, 4, 5, 1, 0] rfl)
      · exact absurd c_34 (nI_m1 (by omega))
end SEARCH3
end
section
def apx (L : List Wy) : Option Wy → List Wy
  | none => L
  | some x => L ++ [x]
theorem take_s {l : List Nat} {k p : Nat} (hk : k < l.length) : p ∈ l.take (k + 1) ↔ p ∈ l.take k ∨ p = l.getD k 0 := by
  have e : l.getD k 0 = l[k] := by simp [List.getD, hk]
  rw [List.take_add_one, List.mem_append, List.getElem?_eq_getElem hk, e]
  simp only [Option.toList_some, List.mem_singleton]
theorem gD_mem {l : List Nat} {k : Nat} (hk : k < l.length) : l.getD k 0 ∈ l := by
  simp [List.getD, hk]
theorem sw_p {sP h : Nat → Bool} {l : List Nat} {k : Nat} (hk : k < l.length) (hh : ∀ p, h p = (sP p || decide (p ∈ l.take k))) : ∀ p, va_up h (l.getD k 0) true p = (sP p || decide (p ∈ l.take (k + 1))) := by
  intro p
  by_cases e : p = l.getD k 0
  · rw [decide_eq_true (take_s hk |>.mpr (Or.inr e)), Bool.or_true]
    rw [e, va_up_self]
  · rw [va_up_ne _ _ e, hh p]
    congr 1
    rw [decide_eq_decide, take_s hk]
    exact ⟨fun q => Or.inl q, fun q => q.resolve_right e⟩
theorem sw_t {kd : Nat → Nat} {sT f f1 : Nat → Bool} {l : List Nat} {k : Nat} (hk : k < l.length) (hh : ∀ v, f v = (sT v || decide (v ∈ l.take k ∧ kd v ≠ 0))) (h1 : ∀ x, f1 x = (f x || decide (x = l.getD k 0 ∧ kd (l.getD k 0) ≠ 0))) : ∀ v, f1 v = (sT v || decide (v ∈ l.take (k + 1) ∧ kd v ≠ 0)) := by
  intro v
  rw [h1 v, hh v, Bool.or_assoc, ← Bool.decide_or]
  congr 1
  rw [decide_eq_decide, take_s hk]
  constructor
  · rintro (q | q)
    · exact ⟨Or.inl q.1, q.2⟩
    · exact ⟨Or.inr q.1, by rw [q.1]; exact q.2⟩
  · rintro ⟨q | q, z⟩
    · exact Or.inl ⟨q, z⟩
    · exact Or.inr ⟨q, by rw [← q]; exact z⟩

section SEARCH4
variable {l : Launch} {g : va_G} {t : Nat → ClassId} {a : Nat → Nat} {n : Nat} {kd : Nat → Nat} {em : Nat → Bool} {br : Nat → Bool} {ii : Nat → Int32} {oo : Nat → Int32} {np : Nat} {ea : Nat → Nat} {eb : Nat → Nat} {li : Nat → Nat} {rn : Nat → Bool} {wa : Nat → Option Nat} {wn : Nat} {sT : Nat → Bool} {sP : Nat → Bool} {ak : Nat} {ap : Nat → Nat} {af : Nat → Nat} {tt : Nat → Nat} {ac : Nat → Nat} {ct : Nat → Nat} {rp : Nat → Nat} {rt : Nat → Nat} {rest : va_W} {L : List Wy}
set_option maxHeartbeats 4000000 in
set_option maxRecDepth 100000 in
theorem c_SE_leastWay (u0 e0 : Nat) (hu0 : u0 < 48) (he0 : e0 < 48) (hn : n ≤ 48) (hnp : np ≤ 96) (hk : ∀ j, kd j < 3) (hea : ∀ j, j < np → ea j < n) (heb : ∀ j, j < np → eb j < n) (hli : ∀ j, j < np → 1 ≤ li j ∧ li j ≤ 1000000000) : Mt l y_SE_leastWay w_SE_leastWay ({ frames := 3, cells := 3, slots := 100, locals := 110 }) g classes (tyL t) [.ref (a 3), .int (nI u0), .int (nI e0)] (wW a t n kd em br ii oo np ea eb li rn wa wn sT sP ak ap af tt ac ct rp rt rest L) (S := (Nat × (Nat → Nat) × (Nat → Nat) × (Nat → Nat) × (Nat → Nat) × (Nat → Nat) × (Nat → Nat) × (Nat → Nat)) × Option Wy) (fun v z => v = some (va_rf (z.2.map (fun x => x.2.2.1))) ∧ cLW kd ii oo np ea eb li sT sP u0 e0 (z.2.map (fun x => (x.2.2.2.2.2.1, x.2.2.2.2.2.2.1, x.2.2.2.2.2.2.2))) ∧ ∀ x, z.2 = some x → x.2.2.2.1 = u0 ∧ x.2.2.2.2.1 = e0) (fun z => (wW a t n kd em br ii oo np ea eb li rn wa wn sT sP z.1.1 z.1.2.1 z.1.2.2.1 z.1.2.2.2.1 z.1.2.2.2.2.1 z.1.2.2.2.2.2.1 z.1.2.2.2.2.2.2.1 z.1.2.2.2.2.2.2.2 rest (apx L z.2))) 3 100 := by
  refine Mt.of (cc := b_SE_leastWay) (maxL := 3) (ret := (some (.object "WaySearch$FoundWay"))) (own := R_SE) (by decide) rfl rfl (Nat.le_of_ble_eq_true rfl) ?_
  intro p e s m args below meth c C0 hr hlk hin A hA hB ls hl
  have hl : lv_has ls 3 [(0, .ref (a 3)), (1, .int (nI u0)), (2, .int (nI e0))] := hl
  refine lv_aload_n C0.1 C0.2.1 d_SE_leastWay_0 rfl (lv_at hl 0 rfl) ?_
  refine lv_iload_n C0.1 C0.2.1 d_SE_leastWay_1 rfl (lv_at hl 2 rfl) ?_
  refine cM (As := [.int (nI e0)]) (rest := []) C0 (c_SE_layArcs e0 he0 hn hnp hk hea heb) (q_SE_96 C0.2.2.2.2.1 rfl rfl ⟨Nat.le_of_ble_eq_true rfl, Nat.le_of_ble_eq_true rfl⟩) (ci := 3) (q0 := 3) rfl rfl rfl hB hl.1 rfl rfl (Nat.le_of_ble_eq_true rfl) d_SE_leastWay_2 ⟨Nat.zero_le _, Nat.zero_le _⟩ (fun v_2 u_2 H locs hp_2 hB => ?_)
  obtain ⟨k1, p1, f1, t1, c1⟩ := u_2
  obtain ⟨rfl, g1⟩ := hp_2
  obtain ⟨b1, b2, b3, b4, b5, b6⟩ := Arcs_bd g1 hnp hn hea heb hli
  have hB : wB g classes A s.heap (wW a t n kd em br ii oo np ea eb li rn wa wn sT sP k1 p1 f1 t1 c1 ct rp rt rest L) H locs := hB
  refine W.eq (g2 := F0 m 5 ls []) rfl ?_
  refine lv_aload_n C0.1 C0.2.1 d_SE_leastWay_5 rfl (lv_at hl 0 rfl) ?_
  refine lv_iload_n C0.1 C0.2.1 d_SE_leastWay_6 rfl (lv_at hl 2 rfl) ?_
  refine cM (As := [.int (nI e0)]) (rest := []) C0 (c_SE_reckonCostsTo e0 he0 b1 b2 b3 b4 b5) (q_SE_99 C0.2.2.2.2.1 rfl rfl ⟨Nat.le_of_ble_eq_true rfl, Nat.le_of_ble_eq_true rfl⟩) (ci := 3) (q0 := 3) rfl rfl rfl hB hl.1 rfl rfl (Nat.le_of_ble_eq_true rfl) d_SE_leastWay_7 ⟨Nat.zero_le _, Nat.zero_le _⟩ (fun v_7 d1 H locs hp_7 hB => ?_)
  obtain ⟨rfl, x1, x2, x3⟩ := hp_7
  have hB : wB g classes A s.heap (wW a t n kd em br ii oo np ea eb li rn wa wn sT sP k1 p1 f1 t1 c1 d1 rp rt rest L) H locs := hB
  refine W.eq (g2 := F0 m 10 ls []) rfl ?_
  refine lv_aload_n C0.1 C0.2.1 d_SE_leastWay_10 rfl (lv_at hl 0 rfl) ?_
  refine gf_SE_38 C0 hB.1 3 rfl rfl d_SE_leastWay_11 ?_
  refine lv_iload_n C0.1 C0.2.1 d_SE_leastWay_14 rfl (lv_at hl 1 rfl) ?_
  refine ald_l C0 hB.1 20 2 rfl rfl (by omega) (by decide) d_SE_leastWay_15 ?_
  refine lv_ldc2 C0.1 C0.2.1 C0.2.2.2.1 (C0.2.2.2.2.1 _ k_SE_102) d_SE_leastWay_16 ?_
  refine tl (show (9223372036854775807 : Int64) = lN 9223372036854775807 from rfl) ?_
  refine W.lcmp C0.1 C0.2.1 d_SE_leastWay_19 ?_
  refine lv_if_ne (tgt := 27) C0.1 C0.2.1 d_SE_leastWay_20 (by decide) (fun c_20 => ?_) (fun c_20 => ?_)
  · have hfar : d1 u0 ≠ bf_far := fun z => c_20 ((lg_cmp_eq _ _).mpr (by rw [z]))
    obtain ⟨Wl, hW⟩ := bf_fw_ex x1 b5 (d1 u0 + 1) u0 (by omega) hfar
    have hlen := bf_fw_len x1 x2 b5 b3 hu0 hW
    have hnd : ∀ j, (bf_nodes t1 u0 Wl).getD j 0 < 48 := fun j => bf_walk_lt b3 Wl u0 j hu0 (bf_tw_walk _ _ (bf_fw_tw _ _ hW))
    refine lv_aload_n C0.1 C0.2.1 d_SE_leastWay_27 rfl (lv_at hl 0 rfl) ?_
    refine lv_iload_n C0.1 C0.2.1 d_SE_leastWay_28 rfl (lv_at hl 1 rfl) ?_
    refine lv_iload_n C0.1 C0.2.1 d_SE_leastWay_29 rfl (lv_at hl 2 rfl) ?_
    refine cM (As := [.int (nI u0), .int (nI e0)]) (rest := []) C0 (c_SE_followLeast u0 e0 Wl hu0 he0 hW hlen hnd b1 b2 b3 b4 x1.1 x3) (q_SE_104 C0.2.2.2.2.1 rfl rfl ⟨Nat.le_of_ble_eq_true rfl, Nat.le_of_ble_eq_true rfl⟩) (ci := 3) (q0 := 3) rfl rfl rfl hB hl.1 rfl rfl (Nat.le_of_ble_eq_true rfl) d_SE_leastWay_30 ⟨Nat.le_of_ble_eq_true rfl, Nat.le_of_ble_eq_true rfl⟩ (fun v_30 u_30 H locs hp_30 hB => ?_)
    obtain ⟨q1, q2, q3, r, q⟩ := u_30
    obtain rfl := hp_30
    have hB : wB g classes A s.heap (wW a t n kd em br ii oo np ea eb li rn wa wn sT sP k1 p1 f1 t1 c1 d1 r q rest (L ++ [(q1, q2, q3, u0, e0, d1 u0 / 64, Wl.map p1, bf_nodes t1 u0 Wl)])) H locs := hB
    refine W.eq (g2 := F0 m 33 ls [.ref q3]) rfl ?_
    exact eM_a C0 hr (Or.inl ⟨_, rfl⟩) hlk ((k1, p1, f1, t1, c1, d1, r, q), some (q1, q2, q3, u0, e0, d1 u0 / 64, Wl.map p1, bf_nodes t1 u0 Wl)) (Or.inr ⟨_, rfl⟩) hB ⟨rfl, ⟨k1, p1, f1, t1, c1, d1, g1, x1, x2, Or.inr ⟨hfar, Wl, hW, hlen, rfl⟩⟩, fun x h => by cases h; exact ⟨rfl, rfl⟩⟩ (Nat.le_of_ble_eq_true rfl) (Nat.le_of_ble_eq_true rfl) d_SE_leastWay_33
  · have hfar : d1 u0 = bf_far := (pk_lEQ (Nat.lt_of_le_of_lt (x1.1 u0) (by decide)) (by decide)).mp ((lg_cmp_eq _ _).mp c_20)
    refine lv_null C0.1 C0.2.1 d_SE_leastWay_23 ?_
    refine lv_goto (tgt := 33) C0.1 C0.2.1 d_SE_leastWay_24 (by decide) ?_
    exact eM_a C0 hr (Or.inl ⟨_, rfl⟩) hlk ((k1, p1, f1, t1, c1, d1, rp, rt), none) (Or.inl rfl) hB ⟨rfl, ⟨k1, p1, f1, t1, c1, d1, g1, x1, x2, Or.inl ⟨rfl, hfar⟩⟩, fun x h => by cases h⟩ (Nat.zero_le _) (Nat.zero_le _) d_SE_leastWay_33
set_option maxHeartbeats 4000000 in
set_option maxRecDepth 100000 in
theorem c_SE_shutWay (i pa ta oa fr to0 lit : Nat) (pl tl : List Nat) (hx : L[i]? = some (pa, ta, oa, fr, to0, lit, pl, tl)) (hpl : ∀ p ∈ pl, p < np) (htl : ∀ v ∈ tl, v < n) (hl1 : pl.length < 1000) (hl2 : tl.length < 1000) (hn : n ≤ 48) (hnp : np ≤ 96) (hk : ∀ j, kd j < 3) : Mt l y_SE_shutWay w_SE_shutWay ({ frames := 2, cells := 0, slots := 0, locals := 42 }) g classes (tyL t) [.ref (a 3), .ref oa] (wW a t n kd em br ii oo np ea eb li rn wa wn sT sP ak ap af tt ac ct rp rt rest L) (S := (Nat → Bool) × (Nat → Bool)) (fun v z => v = none ∧ (∀ v, z.1 v = (sT v || decide (v ∈ tl ∧ kd v ≠ 0))) ∧ ∀ p, z.2 p = (sP p || decide (p ∈ pl))) (fun z => (wW a t n kd em br ii oo np ea eb li rn wa wn z.1 z.2 ak ap af tt ac ct rp rt rest L)) 0 0 := by
  refine Mt.of (cc := b_SE_shutWay) (maxL := 6) (ret := none) (own := R_SE) (by decide) rfl rfl (Nat.le_of_ble_eq_true rfl) ?_
  intro p e s m args below meth c C0 hr hlk hin A hA hB ls hl
  have hl : lv_has ls 6 [(0, .ref (a 3)), (1, .ref oa)] := hl
  refine lv_aload_n C0.1 C0.2.1 d_SE_shutWay_0 rfl (lv_at hl 1 rfl) ?_
  refine gf_SE_83 C0 hB.1 (23 + (rest.length + (3 * i + 2))) (wW_w2 hx) rfl d_SE_shutWay_1 ?_
  refine lv_astore_n (lv' := [(2, .ref pa), (0, .ref (a 3)), (1, .ref oa)]) C0.1 C0.2.1 d_SE_shutWay_4 rfl hl (by decide) rfl (fun ls hl => ?_)
  refine lv_aload_n C0.1 C0.2.1 d_SE_shutWay_5 rfl (lv_at hl 0 rfl) ?_
  refine alen (n := pl.length) C0 hB.1 (23 + (rest.length + (3 * i + 0))) 0 (wW_w0 hx) rfl rfl d_SE_shutWay_6 ?_
  refine lv_istore_n (lv' := [(3, .int (nI pl.length)), (2, .ref pa), (0, .ref (a 3)), (1, .ref oa)]) C0.1 C0.2.1 d_SE_shutWay_7 rfl hl (by decide) rfl (fun ls hl => ?_)
  refine lv_iconst (v := nI 0) C0.1 C0.2.1 d_SE_shutWay_8 (by decide) ?_
  refine lv_istore (lv' := [(4, .int (nI 0)), (3, .int (nI pl.length)), (2, .ref pa), (0, .ref (a 3)), (1, .ref oa)]) C0.1 C0.2.1 d_SE_shutWay_9 hl (by decide) rfl (fun ls hl => ?_)
  refine wlM (σ := Nat × (Nat → Bool)) (head := 11) (fun z_ => pl.length - z_.1) (fun z_ => z_.1 ≤ pl.length ∧ ∀ p, z_.2 p = (sP p || decide (p ∈ pl.take z_.1))) (fun z_ => (wW a t n kd em br ii oo np ea eb li rn wa wn sT z_.2 ak ap af tt ac ct rp rt rest L)) (fun z_ => [(0, .ref (a 3)), (1, .ref oa), (2, .ref pa), (3, .int (nI pl.length)), (4, .int (nI z_.1))]) ?_ (0, sP) (show 0 ≤ pl.length ∧ ∀ p, sP p = (sP p || decide (p ∈ pl.take 0)) from ⟨Nat.zero_le _, fun p => by simp⟩) hB (lv_sub hl [3, 4, 2, 1, 0] rfl)
  rintro ⟨k, h⟩ hi ih H locs ls hB hl
  have hi : k ≤ pl.length ∧ ∀ p, h p = (sP p || decide (p ∈ pl.take k)) := hi
  obtain ⟨hi1, hi2⟩ := hi
  have hl : lv_has ls 6 [(0, .ref (a 3)), (1, .ref oa), (2, .ref pa), (3, .int (nI pl.length)), (4, .int (nI k))] := hl
  have hB : wB g classes A s.heap (wW a t n kd em br ii oo np ea eb li rn wa wn sT h ak ap af tt ac ct rp rt rest L) H locs := hB
  refine lv_iload C0.1 C0.2.1 d_SE_shutWay_11 (lv_at hl 4 rfl) ?_
  refine lv_iload_n C0.1 C0.2.1 d_SE_shutWay_13 rfl (lv_at hl 3 rfl) ?_
  refine lv_icmp_ge (tgt := 35) C0.1 C0.2.1 d_SE_shutWay_14 (by decide) (fun c_14 => ?_) (fun c_14 => ?_)
  · have hkl : k = pl.length := by have := (nI_leI (by omega) (by omega)).mp c_14; omega
    have hi3 : ∀ p, h p = (sP p || decide (p ∈ pl)) := fun p => by rw [hi2 p, hkl, List.take_length]
    refine lv_aload_n C0.1 C0.2.1 d_SE_shutWay_35 rfl (lv_at hl 1 rfl) ?_
    refine gf_SE_90 C0 hB.1 (23 + (rest.length + (3 * i + 2))) (wW_w2 hx) rfl d_SE_shutWay_36 ?_
    refine lv_astore_n (lv' := [(2, .ref ta), (0, .ref (a 3)), (1, .ref oa), (3, .int (nI pl.length)), (4, .int (nI k))]) C0.1 C0.2.1 d_SE_shutWay_39 rfl hl (by decide) rfl (fun ls hl => ?_)
    refine lv_aload_n C0.1 C0.2.1 d_SE_shutWay_40 rfl (lv_at hl 0 rfl) ?_
    refine alen (n := tl.length) C0 hB.1 (23 + (rest.length + (3 * i + 1))) 0 (wW_w1 hx) rfl rfl d_SE_shutWay_41 ?_
    refine lv_istore_n (lv' := [(3, .int (nI tl.length)), (2, .ref ta), (0, .ref (a 3)), (1, .ref oa), (4, .int (nI k))]) C0.1 C0.2.1 d_SE_shutWay_42 rfl hl (by decide) rfl (fun ls hl => ?_)
    refine lv_iconst (v := nI 0) C0.1 C0.2.1 d_SE_shutWay_43 (by decide) ?_
    refine lv_istore (lv' := [(4, .int (nI 0)), (3, .int (nI tl.length)), (2, .ref ta), (0, .ref (a 3)), (1, .ref oa)]) C0.1 C0.2.1 d_SE_shutWay_44 hl (by decide) rfl (fun ls hl => ?_)
    refine wlM (σ := Nat × (Nat → Bool)) (head := 46) (fun z_ => tl.length - z_.1) (fun z_ => z_.1 ≤ tl.length ∧ ∀ v, z_.2 v = (sT v || decide (v ∈ tl.take z_.1 ∧ kd v ≠ 0))) (fun z_ => (wW a t n kd em br ii oo np ea eb li rn wa wn z_.2 h ak ap af tt ac ct rp rt rest L)) (fun z_ => [(0, .ref (a 3)), (1, .ref oa), (2, .ref ta), (3, .int (nI tl.length)), (4, .int (nI z_.1))]) ?_ (0, sT) (show 0 ≤ tl.length ∧ ∀ v, sT v = (sT v || decide (v ∈ tl.take 0 ∧ kd v ≠ 0)) from ⟨Nat.zero_le _, fun p => by simp⟩) hB (lv_sub hl [3, 4, 2, 1, 0] rfl)
    rintro ⟨j, f⟩ hi ih H locs ls hB hl
    have hi : j ≤ tl.length ∧ ∀ v, f v = (sT v || decide (v ∈ tl.take j ∧ kd v ≠ 0)) := hi
    obtain ⟨hj0, hj2⟩ := hi
    have hl : lv_has ls 6 [(0, .ref (a 3)), (1, .ref oa), (2, .ref ta), (3, .int (nI tl.length)), (4, .int (nI j))] := hl
    have hB : wB g classes A s.heap (wW a t n kd em br ii oo np ea eb li rn wa wn f h ak ap af tt ac ct rp rt rest L) H locs := hB
    refine lv_iload C0.1 C0.2.1 d_SE_shutWay_46 (lv_at hl 4 rfl) ?_
    refine lv_iload_n C0.1 C0.2.1 d_SE_shutWay_48 rfl (lv_at hl 3 rfl) ?_
    refine lv_icmp_ge (tgt := 70) C0.1 C0.2.1 d_SE_shutWay_49 (by decide) (fun c_49 => ?_) (fun c_49 => ?_)
    · have hjl : j = tl.length := by have := (nI_leI (by omega) (by omega)).mp c_49; omega
      have hj3 : ∀ v, f v = (sT v || decide (v ∈ tl ∧ kd v ≠ 0)) := fun p => by rw [hj2 p, hjl, List.take_length]
      exact eM_v C0 hr hlk (f, h) hB (⟨rfl, hj3, hi3⟩) (Nat.le_refl _) (Nat.le_refl _) d_SE_shutWay_70
    · have hj1 : j < tl.length := (nI_nle' (by omega) (by omega)).mp c_49
      refine lv_aload_n C0.1 C0.2.1 d_SE_shutWay_52 rfl (lv_at hl 2 rfl) ?_
      refine lv_iload C0.1 C0.2.1 d_SE_shutWay_53 (lv_at hl 4 rfl) ?_
      refine ald_i (N := tl.length) C0 hB.1 (23 + (rest.length + (3 * i + 1))) 0 (wW_w1 hx) rfl (by omega) (by omega) d_SE_shutWay_55 ?_
      refine lv_istore (lv' := [(5, .int (nI (tl.getD j 0))), (0, .ref (a 3)), (1, .ref oa), (2, .ref ta), (3, .int (nI tl.length)), (4, .int (nI j))]) C0.1 C0.2.1 d_SE_shutWay_56 hl (by decide) rfl (fun ls hl => ?_)
      refine lv_aload_n C0.1 C0.2.1 d_SE_shutWay_58 rfl (lv_at hl 1 rfl) ?_
      refine lv_iload C0.1 C0.2.1 d_SE_shutWay_59 (lv_at hl 0 rfl) ?_
      refine cM (As := [.int (nI (tl.getD j 0))]) (rest := []) C0 (c_SE_shutUnlessTank (tl.getD j 0) (htl _ (gD_mem hj1)) hn hk) (q_SE_72 C0.2.2.2.2.1 rfl rfl ⟨Nat.le_of_ble_eq_true rfl, Nat.le_of_ble_eq_true rfl⟩) (ci := 3) (q0 := 3) rfl rfl rfl hB hl.1 rfl rfl (Nat.le_of_ble_eq_true rfl) d_SE_shutWay_61 ⟨Nat.zero_le _, Nat.zero_le _⟩ (fun v_61 f1 H locs hp_61 hB => ?_)
      obtain ⟨rfl, hf1⟩ := hp_61
      have hB : wB g classes A s.heap (wW a t n kd em br ii oo np ea eb li rn wa wn f1 h ak ap af tt ac ct rp rt rest L) H locs := hB
      refine W.eq (g2 := F0 m 64 ls []) rfl ?_
      refine lv_iinc (v := nI (j + 1)) (lv' := [(4, .int (nI (j + 1))), (5, .int (nI (tl.getD j 0))), (0, .ref (a 3)), (1, .ref oa), (2, .ref ta), (3, .int (nI tl.length))]) C0.1 C0.2.1 d_SE_shutWay_64 hl (k := 5) rfl (inc1 _) (by decide) rfl (fun ls hl => ?_)
      refine lv_goto (tgt := 46) C0.1 C0.2.1 d_SE_shutWay_67 (by decide) ?_
      exact ih ((j + 1), f1) (show (j + 1) ≤ tl.length ∧ ∀ v, f1 v = (sT v || decide (v ∈ tl.take (j + 1) ∧ kd v ≠ 0)) from ⟨by omega, sw_t hj1 hj2 hf1⟩) (show tl.length - (j + 1) < tl.length - j from by omega) H locs ls hB (lv_sub hl [2, 3, 4, 5, 0] rfl)
  · have hk1 : k < pl.length := (nI_nle' (by omega) (by omega)).mp c_14
    refine lv_aload_n C0.1 C0.2.1 d_SE_shutWay_17 rfl (lv_at hl 2 rfl) ?_
    refine lv_iload C0.1 C0.2.1 d_SE_shutWay_18 (lv_at hl 4 rfl) ?_
    refine ald_i (N := pl.length) C0 hB.1 (23 + (rest.length + (3 * i + 0))) 0 (wW_w0 hx) rfl (by omega) (by omega) d_SE_shutWay_20 ?_
    refine lv_istore (lv' := [(5, .int (nI (pl.getD k 0))), (0, .ref (a 3)), (1, .ref oa), (2, .ref pa), (3, .int (nI pl.length)), (4, .int (nI k))]) C0.1 C0.2.1 d_SE_shutWay_21 hl (by decide) rfl (fun ls hl => ?_)
    refine lv_aload_n C0.1 C0.2.1 d_SE_shutWay_23 rfl (lv_at hl 1 rfl) ?_
    refine lv_iload C0.1 C0.2.1 d_SE_shutWay_24 (lv_at hl 0 rfl) ?_
    refine cM (As := [.int (nI (pl.getD k 0))]) (rest := []) C0 (c_SE_shutPipe (pl.getD k 0) (hpl _ (gD_mem hk1)) hnp) (q_SE_87 C0.2.2.2.2.1 rfl rfl ⟨Nat.le_of_ble_eq_true rfl, Nat.le_of_ble_eq_true rfl⟩) (ci := 3) (q0 := 3) rfl rfl rfl hB hl.1 rfl rfl (Nat.le_of_ble_eq_true rfl) d_SE_shutWay_26 ⟨Nat.zero_le _, Nat.zero_le _⟩ (fun v_26 u_26 H locs hp_26 hB => ?_)
    obtain rfl := hp_26
    have hB : wB g classes A s.heap (wW a t n kd em br ii oo np ea eb li rn wa wn sT (va_up h (pl.getD k 0) true) ak ap af tt ac ct rp rt rest L) H locs := hB
    refine W.eq (g2 := F0 m 29 ls []) rfl ?_
    refine lv_iinc (v := nI (k + 1)) (lv' := [(4, .int (nI (k + 1))), (5, .int (nI (pl.getD k 0))), (0, .ref (a 3)), (1, .ref oa), (2, .ref pa), (3, .int (nI pl.length))]) C0.1 C0.2.1 d_SE_shutWay_29 hl (k := 5) rfl (inc1 _) (by decide) rfl (fun ls hl => ?_)
    refine lv_goto (tgt := 11) C0.1 C0.2.1 d_SE_shutWay_32 (by decide) ?_
    exact ih ((k + 1), (va_up h (pl.getD k 0) true)) (show (k + 1) ≤ pl.length ∧ ∀ p, (va_up h (pl.getD k 0) true) p = (sP p || decide (p ∈ pl.take (k + 1))) from ⟨by omega, sw_p hk1 hi2⟩) (show pl.length - (k + 1) < pl.length - k from by omega) H locs ls hB (lv_sub hl [2, 3, 4, 5, 0] rfl)
end SEARCH4
end
section
/-! pure words of the class's own calls -/
def refC (n : Nat) (kd : Nat → Nat) (em : Nat → Bool) (x y : Int32) : Int32 := if (isK n kd x 0 && isK n kd y 0) = true then (if x = y then -3 else if em x.toNatClampNeg = true then -4 else nI 0) else -2
theorem refC_w {n : Nat} {kd : Nat → Nat} {em : Nat → Bool} {x y : Int32} (h : (isK n kd x 0 && isK n kd y 0) = false) : refC n kd em x y = -2 := by
  unfold refC; rw [h]; rfl
theorem refC_s {n : Nat} {kd : Nat → Nat} {em : Nat → Bool} {x y : Int32} (h : isK n kd x 0 = true) (h' : isK n kd y 0 = true) (e : x = y) : refC n kd em x y = -3 := by
  unfold refC; rw [h, h', if_pos (by decide), if_pos e]
theorem refC_e {n : Nat} {kd : Nat → Nat} {em : Nat → Bool} {x y : Int32} (h : isK n kd x 0 = true) (h' : isK n kd y 0 = true) (e : ¬ x = y) (hm : em x.toNatClampNeg = true) : refC n kd em x y = -4 := by
  unfold refC; rw [h, h', if_pos (by decide), if_neg e, if_pos hm]
theorem refC_0 {n : Nat} {kd : Nat → Nat} {em : Nat → Bool} {x y : Int32} (h : isK n kd x 0 = true) (h' : isK n kd y 0 = true) (e : ¬ x = y) (hm : em x.toNatClampNeg = false) : refC n kd em x y = nI 0 := by
  unfold refC; rw [h, h', if_pos (by decide), if_neg e, hm]; rfl
theorem refC_ex {n : Nat} {kd : Nat → Nat} {em : Nat → Bool} {x y : Int32} (hn : n ≤ 48) (h : refC n kd em x y = 0) : ∃ i j, i < n ∧ j < n ∧ x = nI i ∧ y = nI j ∧ kd i = 0 ∧ kd j = 0 ∧ i ≠ j := by
  unfold refC at h
  by_cases h1 : (isK n kd x 0 && isK n kd y 0) = true
  · rw [if_pos h1] at h
    rw [Bool.and_eq_true] at h1
    obtain ⟨i, a1, a2, a3⟩ := isK_ex (by omega) h1.1
    obtain ⟨j, b1, b2, b3⟩ := isK_ex (by omega) h1.2
    refine ⟨i, j, a1, b1, a2, b2, a3, b3, fun q => ?_⟩
    rw [if_pos (by rw [a2, b2, q])] at h
    exact absurd h (by decide)
  · rw [if_neg h1] at h
    exact absurd h (by decide)
def pipR (n np : Nat) (x y : Int32) (z : Int64) : Int32 := if (hasB n x && hasB n y) = true then (if z < 1 ∨ 1000000000 < z ∨ x = y then -1 else if np = 96 then -5 else 0) else -2
theorem pipR_w {n np : Nat} {x y : Int32} {z : Int64} (h : (hasB n x && hasB n y) = false) : pipR n np x y z = -2 := by
  unfold pipR; rw [h]; rfl
theorem pipR_n {n np : Nat} {x y : Int32} {z : Int64} (h : hasB n x = true) (h' : hasB n y = true) (e : z < 1 ∨ 1000000000 < z ∨ x = y) : pipR n np x y z = -1 := by
  unfold pipR; rw [h, h', if_pos (by decide), if_pos e]
theorem pipR_f {n np : Nat} {x y : Int32} {z : Int64} (h : hasB n x = true) (h' : hasB n y = true) (e : ¬ (z < 1 ∨ 1000000000 < z ∨ x = y)) (hf : np = 96) : pipR n np x y z = -5 := by
  unfold pipR; rw [h, h', if_pos (by decide), if_neg e, if_pos hf]
theorem pipR_0 {n np : Nat} {x y : Int32} {z : Int64} (h : hasB n x = true) (h' : hasB n y = true) (e : ¬ (z < 1 ∨ 1000000000 < z ∨ x = y)) (hf : ¬ np = 96) : pipR n np x y z = 0 := by
  unfold pipR; rw [h, h', if_pos (by decide), if_neg e, if_neg hf]
theorem pipR_ex {n np : Nat} {x y : Int32} {z : Int64} (hn : n ≤ 48) (h : pipR n np x y z = 0) : ∃ i j k, i < n ∧ j < n ∧ x = nI i ∧ y = nI j ∧ z = lN k ∧ 1 ≤ k ∧ k ≤ 1000000000 ∧ i ≠ j ∧ np ≠ 96 := by
  unfold pipR at h
  by_cases h1 : (hasB n x && hasB n y) = true
  · rw [if_pos h1] at h
    rw [Bool.and_eq_true] at h1
    obtain ⟨i, a1, a2⟩ := hasB_ex (by omega) h1.1
    obtain ⟨j, b1, b2⟩ := hasB_ex (by omega) h1.2
    by_cases h2 : z < 1 ∨ 1000000000 < z ∨ x = y
    · rw [if_pos h2] at h
      exact absurd h (by decide)
    · rw [if_neg h2] at h
      by_cases h3 : np = 96
      · rw [if_pos h3] at h
        exact absurd h (by decide)
      · have z0 : ¬ z < 0 := by
          intro q
          refine h2 (Or.inl ?_)
          rw [Int64.lt_iff_toInt_lt] at q ⊢
          have e0 : (0 : Int64).toInt = 0 := by decide
          have e1 : (1 : Int64).toInt = 1 := by decide
          omega
        obtain ⟨k, c1, c2⟩ := pk_lOf z0
        have c3 : 1 ≤ k := by
          rcases Nat.lt_or_ge k 1 with q | q
          · exact absurd (Or.inl (by rw [c2]; exact (pk_lLT c1 (by decide)).mpr q)) h2
          · exact q
        have c4 : k ≤ 1000000000 := by
          rcases Nat.lt_or_ge 1000000000 k with q | q
          · exact absurd (Or.inr (Or.inl (by rw [c2]; exact (pk_lLT (by decide) c1).mpr q))) h2
          · exact q
        exact ⟨i, j, k, a1, b1, a2, b2, c2, c3, c4, fun q => h2 (Or.inr (Or.inr (by rw [a2, b2, q]))), h3⟩
  · rw [if_neg h1] at h
    exact absurd h (by decide)
def fwdB (n : Nat) (kd : Nat → Nat) (np : Nat) (ea eb : Nat → Nat) (x y z : Int32) : Bool := (isK n kd x 1 && decide (¬ y = z)) && (anyN (joinB ea eb x y) np && anyN (joinB ea eb x z) np)
def toldF (n np wn c3 c4 c5 c6 : Nat) (x : Int32) : Int32 := if x = 0 then nI n else if x = 1 then nI np else if x = 2 then nI wn else if x = 3 then nI c3 else if x = 4 then nI c4 else if x = 5 then nI c5 else if x = 6 then nI c6 else -1
def waL (L : List Wy) : Nat → Option Nat := fun j => (L[j]?).map (fun x => x.2.2.1)
theorem waL_push {L : List Wy} {x : Wy} : va_up (waL L) L.length (some x.2.2.1) = waL (L ++ [x]) := by
  funext j
  unfold va_up waL
  by_cases h : j = L.length
  · subst h
    rw [if_pos rfl]
    simp
  · rw [if_neg h]
    by_cases h2 : j < L.length
    · rw [List.getElem?_append_left h2]
    · rw [List.getElem?_eq_none (by omega), List.getElem?_eq_none (by simp; omega)]
theorem waL_at {L : List Wy} {i : Nat} {x : Wy} (h : L[i]? = some x) : waL L i = some x.2.2.1 := by
  unfold waL; rw [h]; rfl

section CALLS1
variable {l : Launch} {g : va_G} {t : Nat → ClassId} {a : Nat → Nat} {n : Nat} {kd : Nat → Nat} {em : Nat → Bool} {br : Nat → Bool} {ii : Nat → Int32} {oo : Nat → Int32} {np : Nat} {ea : Nat → Nat} {eb : Nat → Nat} {li : Nat → Nat} {rn : Nat → Bool} {wa : Nat → Option Nat} {wn : Nat} {sT : Nat → Bool} {sP : Nat → Bool} {ak : Nat} {ap : Nat → Nat} {af : Nat → Nat} {tt : Nat → Nat} {ac : Nat → Nat} {ct : Nat → Nat} {rp : Nat → Nat} {rt : Nat → Nat} {rest : va_W} {L : List Wy}
set_option maxHeartbeats 4000000 in
set_option maxRecDepth 100000 in
theorem c_WS_changeMark_rn (p0 : Nat) (b0 : Bool) (hx : p0 < 96) : Mt l y_WS_changeMark w_WS_changeMark ({ frames := 0, cells := 0, slots := 0, locals := 0 }) g classes (tyL t) [.ref (a 13), .int (nI p0), .int (bI b0)] (wW a t n kd em br ii oo np ea eb li rn wa wn sT sP ak ap af tt ac ct rp rt rest L) (S := Unit) (fun v _ => v = some (.int (bI (decide (¬ rn p0 = b0))))) (fun _ => (wW a t n kd em br ii oo np ea eb li (va_up rn p0 b0) wa wn sT sP ak ap af tt ac ct rp rt rest L)) 0 0 := by
  refine Mt.of (cc := b_WS_changeMark) (maxL := 4) (ret := (some .boolean)) (own := R_WS) (by decide) rfl rfl (Nat.le_of_ble_eq_true rfl) ?_
  intro p e s m args below meth c C0 hr hlk hin A hA hB ls hl
  have hl : lv_has ls 4 [(0, .ref (a 13)), (1, .int (nI p0)), (2, .int (bI b0))] := hl
  refine wcut (g2 := F0 m 12 ls [.int (bI (decide (¬ rn p0 = b0)))]) ?_ (fun T12 => ?_)
  · refine lv_istore_n (lv' := [(3, .int (bI (decide (¬ rn p0 = b0)))), (0, .ref (a 13)), (1, .int (nI p0)), (2, .int (bI b0))]) C0.1 C0.2.1 d_WS_changeMark_12 rfl hl (by decide) rfl (fun ls hl => ?_)
    refine lv_aload_n C0.1 C0.2.1 d_WS_changeMark_13 rfl (lv_at hl 1 rfl) ?_
    refine lv_iload_n C0.1 C0.2.1 d_WS_changeMark_14 rfl (lv_at hl 2 rfl) ?_
    refine lv_iload_n C0.1 C0.2.1 d_WS_changeMark_15 rfl (lv_at hl 3 rfl) ?_
    refine ast_z (w' := (wW a t n kd em br ii oo np ea eb li (va_up rn p0 b0) wa wn sT sP ak ap af tt ac ct rp rt rest L)) C0 hB 13 1 rfl rfl (by omega) (by decide) up_bI rfl d_WS_changeMark_16 (fun H locs hB => ?_)
    refine lv_iload_n C0.1 C0.2.1 d_WS_changeMark_17 rfl (lv_at hl 0 rfl) ?_
    exact eM_z C0 hr hlk (b := (decide (¬ rn p0 = b0))) () rfl hB rfl (Nat.le_refl _) (Nat.le_refl _) d_WS_changeMark_18
  · refine lv_aload_n C0.1 C0.2.1 d_WS_changeMark_0 rfl (lv_at hl 0 rfl) ?_
    refine lv_iload_n C0.1 C0.2.1 d_WS_changeMark_1 rfl (lv_at hl 1 rfl) ?_
    refine ald_z C0 hB.1 13 1 rfl rfl (by omega) (by decide) d_WS_changeMark_2 ?_
    refine lv_iload_n C0.1 C0.2.1 d_WS_changeMark_3 rfl (lv_at hl 2 rfl) ?_
    refine lv_icmp_eq (tgt := 11) C0.1 C0.2.1 d_WS_changeMark_4 (by decide) (fun c_4 => ?_) (fun c_4 => ?_)
    · refine lv_iconst (v := nI 0) C0.1 C0.2.1 d_WS_changeMark_11 (by decide) ?_
      exact ti (show nI 0 = bI (decide (¬ rn p0 = b0)) from by rw [decide_eq_false (fun z => z (bI_inj.mp c_4))]; rfl) T12
    · refine lv_iconst (v := nI 1) C0.1 C0.2.1 d_WS_changeMark_7 (by decide) ?_
      refine lv_goto (tgt := 12) C0.1 C0.2.1 d_WS_changeMark_8 (by decide) ?_
      exact ti (show nI 1 = bI (decide (¬ rn p0 = b0)) from by rw [decide_eq_true (show ¬ rn p0 = b0 from fun z => c_4 (by rw [z]))]; rfl) T12
set_option maxHeartbeats 4000000 in
set_option maxRecDepth 100000 in
theorem c_WS_changeMark_br (p0 : Nat) (b0 : Bool) (hx : p0 < 48) : Mt l y_WS_changeMark w_WS_changeMark ({ frames := 0, cells := 0, slots := 0, locals := 0 }) g classes (tyL t) [.ref (a 7), .int (nI p0), .int (bI b0)] (wW a t n kd em br ii oo np ea eb li rn wa wn sT sP ak ap af tt ac ct rp rt rest L) (S := Unit) (fun v _ => v = some (.int (bI (decide (¬ br p0 = b0))))) (fun _ => (wW a t n kd em (va_up br p0 b0) ii oo np ea eb li rn wa wn sT sP ak ap af tt ac ct rp rt rest L)) 0 0 := by
  refine Mt.of (cc := b_WS_changeMark) (maxL := 4) (ret := (some .boolean)) (own := R_WS) (by decide) rfl rfl (Nat.le_of_ble_eq_true rfl) ?_
  intro p e s m args below meth c C0 hr hlk hin A hA hB ls hl
  have hl : lv_has ls 4 [(0, .ref (a 7)), (1, .int (nI p0)), (2, .int (bI b0))] := hl
  refine wcut (g2 := F0 m 12 ls [.int (bI (decide (¬ br p0 = b0)))]) ?_ (fun T12 => ?_)
  · refine lv_istore_n (lv' := [(3, .int (bI (decide (¬ br p0 = b0)))), (0, .ref (a 7)), (1, .int (nI p0)), (2, .int (bI b0))]) C0.1 C0.2.1 d_WS_changeMark_12 rfl hl (by decide) rfl (fun ls hl => ?_)
    refine lv_aload_n C0.1 C0.2.1 d_WS_changeMark_13 rfl (lv_at hl 1 rfl) ?_
    refine lv_iload_n C0.1 C0.2.1 d_WS_changeMark_14 rfl (lv_at hl 2 rfl) ?_
    refine lv_iload_n C0.1 C0.2.1 d_WS_changeMark_15 rfl (lv_at hl 3 rfl) ?_
    refine ast_z (w' := (wW a t n kd em (va_up br p0 b0) ii oo np ea eb li rn wa wn sT sP ak ap af tt ac ct rp rt rest L)) C0 hB 7 1 rfl rfl (by omega) (by decide) up_bI rfl d_WS_changeMark_16 (fun H locs hB => ?_)
    refine lv_iload_n C0.1 C0.2.1 d_WS_changeMark_17 rfl (lv_at hl 0 rfl) ?_
    exact eM_z C0 hr hlk (b := (decide (¬ br p0 = b0))) () rfl hB rfl (Nat.le_refl _) (Nat.le_refl _) d_WS_changeMark_18
  · refine lv_aload_n C0.1 C0.2.1 d_WS_changeMark_0 rfl (lv_at hl 0 rfl) ?_
    refine lv_iload_n C0.1 C0.2.1 d_WS_changeMark_1 rfl (lv_at hl 1 rfl) ?_
    refine ald_z C0 hB.1 7 1 rfl rfl (by omega) (by decide) d_WS_changeMark_2 ?_
    refine lv_iload_n C0.1 C0.2.1 d_WS_changeMark_3 rfl (lv_at hl 2 rfl) ?_
    refine lv_icmp_eq (tgt := 11) C0.1 C0.2.1 d_WS_changeMark_4 (by decide) (fun c_4 => ?_) (fun c_4 => ?_)
    · refine lv_iconst (v := nI 0) C0.1 C0.2.1 d_WS_changeMark_11 (by decide) ?_
      exact ti (show nI 0 = bI (decide (¬ br p0 = b0)) from by rw [decide_eq_false (fun z => z (bI_inj.mp c_4))]; rfl) T12
    · refine lv_iconst (v := nI 1) C0.1 C0.2.1 d_WS_changeMark_7 (by decide) ?_
      refine lv_goto (tgt := 12) C0.1 C0.2.1 d_WS_changeMark_8 (by decide) ?_
      exact ti (show nI 1 = bI (decide (¬ br p0 = b0)) from by rw [decide_eq_true (show ¬ br p0 = b0 from fun z => c_4 (by rw [z]))]; rfl) T12
set_option maxHeartbeats 4000000 in
set_option maxRecDepth 100000 in
theorem c_WS_countMarks_br  : Rd l y_WS_countMarks w_WS_countMarks ({ frames := 0, cells := 0, slots := 0, locals := 0 }) g classes (tyL t) [.ref (a 7)] (wW a t n kd em br ii oo np ea eb li rn wa wn sT sP ak ap af tt ac ct rp rt rest L) (some (.int (nI (cntN br 48)))) := by
  refine Rd.of (cc := b_WS_countMarks) (maxL := 6) (ret := (some .int)) (own := R_WS) (by decide) rfl rfl (Nat.le_of_ble_eq_true rfl) ?_
  intro p e s m args below meth c C0 hr hlk hP ls hl
  have hl : lv_has ls 6 [(0, .ref (a 7))] := hl
  refine lv_iconst (v := nI 0) C0.1 C0.2.1 d_WS_countMarks_0 (by decide) ?_
  refine lv_istore_n (lv' := [(1, .int (nI 0)), (0, .ref (a 7))]) C0.1 C0.2.1 d_WS_countMarks_1 rfl hl (by decide) rfl (fun ls hl => ?_)
  refine lv_aload_n C0.1 C0.2.1 d_WS_countMarks_2 rfl (lv_at hl 1 rfl) ?_
  refine lv_astore_n (lv' := [(2, .ref (a 7)), (1, .int (nI 0)), (0, .ref (a 7))]) C0.1 C0.2.1 d_WS_countMarks_3 rfl hl (by decide) rfl (fun ls hl => ?_)
  refine lv_aload_n C0.1 C0.2.1 d_WS_countMarks_4 rfl (lv_at hl 0 rfl) ?_
  refine alen (n := 48) C0 hP 7 1 rfl rfl rfl d_WS_countMarks_5 ?_
  refine lv_istore_n (lv' := [(3, .int (nI 48)), (2, .ref (a 7)), (1, .int (nI 0)), (0, .ref (a 7))]) C0.1 C0.2.1 d_WS_countMarks_6 rfl hl (by decide) rfl (fun ls hl => ?_)
  refine lv_iconst (v := nI 0) C0.1 C0.2.1 d_WS_countMarks_7 (by decide) ?_
  refine lv_istore (lv' := [(4, .int (nI 0)), (3, .int (nI 48)), (2, .ref (a 7)), (1, .int (nI 0)), (0, .ref (a 7))]) C0.1 C0.2.1 d_WS_countMarks_8 hl (by decide) rfl (fun ls hl => ?_)
  refine wlR (σ := Nat) (head := 10) (fun z_ => 48 - z_) (fun z_ => z_ ≤ 48) (fun z_ => [(0, .ref (a 7)), (1, .int (nI (cntN br z_))), (2, .ref (a 7)), (3, .int (nI 48)), (4, .int (nI z_))]) ?_ 0 (show 0 ≤ 48 from Nat.zero_le _) (lv_sub hl [4, 3, 2, 1, 0] rfl)
  rintro j hi ih ls hl
  have hi : j ≤ 48 := hi
  have hl : lv_has ls 6 [(0, .ref (a 7)), (1, .int (nI (cntN br j))), (2, .ref (a 7)), (3, .int (nI 48)), (4, .int (nI j))] := hl
  refine lv_iload C0.1 C0.2.1 d_WS_countMarks_10 (lv_at hl 4 rfl) ?_
  refine lv_iload_n C0.1 C0.2.1 d_WS_countMarks_12 rfl (lv_at hl 3 rfl) ?_
  refine lv_icmp_ge (tgt := 36) C0.1 C0.2.1 d_WS_countMarks_13 (by decide) (fun c_13 => ?_) (fun c_13 => ?_)
  · have hj : j = 48 := by have := (nI_leI (by omega) (by omega)).mp c_13; omega
    refine lv_iload_n C0.1 C0.2.1 d_WS_countMarks_36 rfl (lv_at hl 1 rfl) ?_
    exact eR_i C0 hr hlk (by rw [hj]) d_WS_countMarks_37
  · have hj : j < 48 := (nI_nle' (by omega) (by omega)).mp c_13
    refine lv_aload_n C0.1 C0.2.1 d_WS_countMarks_16 rfl (lv_at hl 2 rfl) ?_
    refine lv_iload C0.1 C0.2.1 d_WS_countMarks_17 (lv_at hl 4 rfl) ?_
    refine ald_z C0 hP 7 1 rfl rfl (by omega) (by decide) d_WS_countMarks_19 ?_
    refine lv_istore (lv' := [(5, .int (bI (br j))), (0, .ref (a 7)), (1, .int (nI (cntN br j))), (2, .ref (a 7)), (3, .int (nI 48)), (4, .int (nI j))]) C0.1 C0.2.1 d_WS_countMarks_20 hl (by decide) rfl (fun ls hl => ?_)
    refine lv_iload C0.1 C0.2.1 d_WS_countMarks_22 (lv_at hl 0 rfl) ?_
    refine lv_if_eq (tgt := 30) C0.1 C0.2.1 d_WS_countMarks_24 (by decide) (fun c_24 => ?_) (fun c_24 => ?_)
    · rw [← cntN_n (bI_0.mp c_24)] at hl
      refine lv_iinc (v := nI (j + 1)) (lv' := [(4, .int (nI (j + 1))), (5, .int (bI (br j))), (0, .ref (a 7)), (1, .int (nI (cntN br (j + 1)))), (2, .ref (a 7)), (3, .int (nI 48))]) C0.1 C0.2.1 d_WS_countMarks_30 hl (k := 5) rfl (inc1 _) (by decide) rfl (fun ls hl => ?_)
      refine lv_goto (tgt := 10) C0.1 C0.2.1 d_WS_countMarks_33 (by decide) ?_
      exact ih (j + 1) (show (j + 1) ≤ 48 from by omega) (show 48 - (j + 1) < 48 - j from by omega) ls (lv_sub hl [2, 3, 4, 5, 0] rfl)
    · refine lv_iinc (v := nI (cntN br (j + 1))) (lv' := [(1, .int (nI (cntN br (j + 1)))), (5, .int (bI (br j))), (0, .ref (a 7)), (2, .ref (a 7)), (3, .int (nI 48)), (4, .int (nI j))]) C0.1 C0.2.1 d_WS_countMarks_27 hl (k := 2) rfl (by rw [cntN_t (bI_n0.mp c_24)]; exact inc1 _) (by decide) rfl (fun ls hl => ?_)
      refine lv_iinc (v := nI (j + 1)) (lv' := [(4, .int (nI (j + 1))), (1, .int (nI (cntN br (j + 1)))), (5, .int (bI (br j))), (0, .ref (a 7)), (2, .ref (a 7)), (3, .int (nI 48))]) C0.1 C0.2.1 d_WS_countMarks_30 hl (k := 5) rfl (inc1 _) (by decide) rfl (fun ls hl => ?_)
      refine lv_goto (tgt := 10) C0.1 C0.2.1 d_WS_countMarks_33 (by decide) ?_
      exact ih (j + 1) (show (j + 1) ≤ 48 from by omega) (show 48 - (j + 1) < 48 - j from by omega) ls (lv_sub hl [3, 1, 4, 5, 0] rfl)
set_option maxHeartbeats 4000000 in
set_option maxRecDepth 100000 in
theorem c_WS_countMarks_rn  : Rd l y_WS_countMarks w_WS_countMarks ({ frames := 0, cells := 0, slots := 0, locals := 0 }) g classes (tyL t) [.ref (a 13)] (wW a t n kd em br ii oo np ea eb li rn wa wn sT sP ak ap af tt ac ct rp rt rest L) (some (.int (nI (cntN rn 96)))) := by
  refine Rd.of (cc := b_WS_countMarks) (maxL := 6) (ret := (some .int)) (own := R_WS) (by decide) rfl rfl (Nat.le_of_ble_eq_true rfl) ?_
  intro p e s m args below meth c C0 hr hlk hP ls hl
  have hl : lv_has ls 6 [(0, .ref (a 13))] := hl
  refine lv_iconst (v := nI 0) C0.1 C0.2.1 d_WS_countMarks_0 (by decide) ?_
  refine lv_istore_n (lv' := [(1, .int (nI 0)), (0, .ref (a 13))]) C0.1 C0.2.1 d_WS_countMarks_1 rfl hl (by decide) rfl (fun ls hl => ?_)
  refine lv_aload_n C0.1 C0.2.1 d_WS_countMarks_2 rfl (lv_at hl 1 rfl) ?_
  refine lv_astore_n (lv' := [(2, .ref (a 13)), (1, .int (nI 0)), (0, .ref (a 13))]) C0.1 C0.2.1 d_WS_countMarks_3 rfl hl (by decide) rfl (fun ls hl => ?_)
  refine lv_aload_n C0.1 C0.2.1 d_WS_countMarks_4 rfl (lv_at hl 0 rfl) ?_
  refine alen (n := 96) C0 hP 13 1 rfl rfl rfl d_WS_countMarks_5 ?_
  refine lv_istore_n (lv' := [(3, .int (nI 96)), (2, .ref (a 13)), (1, .int (nI 0)), (0, .ref (a 13))]) C0.1 C0.2.1 d_WS_countMarks_6 rfl hl (by decide) rfl (fun ls hl => ?_)
  refine lv_iconst (v := nI 0) C0.1 C0.2.1 d_WS_countMarks_7 (by decide) ?_
  refine lv_istore (lv' := [(4, .int (nI 0)), (3, .int (nI 96)), (2, .ref (a 13)), (1, .int (nI 0)), (0, .ref (a 13))]) C0.1 C0.2.1 d_WS_countMarks_8 hl (by decide) rfl (fun ls hl => ?_)
  refine wlR (σ := Nat) (head := 10) (fun z_ => 96 - z_) (fun z_ => z_ ≤ 96) (fun z_ => [(0, .ref (a 13)), (1, .int (nI (cntN rn z_))), (2, .ref (a 13)), (3, .int (nI 96)), (4, .int (nI z_))]) ?_ 0 (show 0 ≤ 96 from Nat.zero_le _) (lv_sub hl [4, 3, 2, 1, 0] rfl)
  rintro j hi ih ls hl
  have hi : j ≤ 96 := hi
  have hl : lv_has ls 6 [(0, .ref (a 13)), (1, .int (nI (cntN rn j))), (2, .ref (a 13)), (3, .int (nI 96)), (4, .int (nI j))] := hl
  refine lv_iload C0.1 C0.2.1 d_WS_countMarks_10 (lv_at hl 4 rfl) ?_
  refine lv_iload_n C0.1 C0.2.1 d_WS_countMarks_12 rfl (lv_at hl 3 rfl) ?_
  refine lv_icmp_ge (tgt := 36) C0.1 C0.2.1 d_WS_countMarks_13 (by decide) (fun c_13 => ?_) (fun c_13 => ?_)
  · have hj : j = 96 := by have := (nI_leI (by omega) (by omega)).mp c_13; omega
    refine lv_iload_n C0.1 C0.2.1 d_WS_countMarks_36 rfl (lv_at hl 1 rfl) ?_
    exact eR_i C0 hr hlk (by rw [hj]) d_WS_countMarks_37
  · have hj : j < 96 := (nI_nle' (by omega) (by omega)).mp c_13
    refine lv_aload_n C0.1 C0.2.1 d_WS_countMarks_16 rfl (lv_at hl 2 rfl) ?_
    refine lv_iload C0.1 C0.2.1 d_WS_countMarks_17 (lv_at hl 4 rfl) ?_
    refine ald_z C0 hP 13 1 rfl rfl (by omega) (by decide) d_WS_countMarks_19 ?_
    refine lv_istore (lv' := [(5, .int (bI (rn j))), (0, .ref (a 13)), (1, .int (nI (cntN rn j))), (2, .ref (a 13)), (3, .int (nI 96)), (4, .int (nI j))]) C0.1 C0.2.1 d_WS_countMarks_20 hl (by decide) rfl (fun ls hl => ?_)
    refine lv_iload C0.1 C0.2.1 d_WS_countMarks_22 (lv_at hl 0 rfl) ?_
    refine lv_if_eq (tgt := 30) C0.1 C0.2.1 d_WS_countMarks_24 (by decide) (fun c_24 => ?_) (fun c_24 => ?_)
    · rw [← cntN_n (bI_0.mp c_24)] at hl
      refine lv_iinc (v := nI (j + 1)) (lv' := [(4, .int (nI (j + 1))), (5, .int (bI (rn j))), (0, .ref (a 13)), (1, .int (nI (cntN rn (j + 1)))), (2, .ref (a 13)), (3, .int (nI 96))]) C0.1 C0.2.1 d_WS_countMarks_30 hl (k := 5) rfl (inc1 _) (by decide) rfl (fun ls hl => ?_)
      refine lv_goto (tgt := 10) C0.1 C0.2.1 d_WS_countMarks_33 (by decide) ?_
      exact ih (j + 1) (show (j + 1) ≤ 96 from by omega) (show 96 - (j + 1) < 96 - j from by omega) ls (lv_sub hl [2, 3, 4, 5, 0] rfl)
    · refine lv_iinc (v := nI (cntN rn (j + 1))) (lv' := [(1, .int (nI (cntN rn (j + 1)))), (5, .int (bI (rn j))), (0, .ref (a 13)), (2, .ref (a 13)), (3, .int (nI 96)), (4, .int (nI j))]) C0.1 C0.2.1 d_WS_countMarks_27 hl (k := 2) rfl (by rw [cntN_t (bI_n0.mp c_24)]; exact inc1 _) (by decide) rfl (fun ls hl => ?_)
      refine lv_iinc (v := nI (j + 1)) (lv' := [(4, .int (nI (j + 1))), (1, .int (nI (cntN rn (j + 1)))), (5, .int (bI (rn j))), (0, .ref (a 13)), (2, .ref (a 13)), (3, .int (nI 96))]) C0.1 C0.2.1 d_WS_countMarks_30 hl (k := 5) rfl (inc1 _) (by decide) rfl (fun ls hl => ?_)
      refine lv_goto (tgt := 10) C0.1 C0.2.1 d_WS_countMarks_33 (by decide) ?_
      exact ih (j + 1) (show (j + 1) ≤ 96 from by omega) (show 96 - (j + 1) < 96 - j from by omega) ls (lv_sub hl [3, 1, 4, 5, 0] rfl)
set_option maxHeartbeats 4000000 in
set_option maxRecDepth 100000 in
theorem c_WS_countMarks_em  : Rd l y_WS_countMarks w_WS_countMarks ({ frames := 0, cells := 0, slots := 0, locals := 0 }) g classes (tyL t) [.ref (a 6)] (wW a t n kd em br ii oo np ea eb li rn wa wn sT sP ak ap af tt ac ct rp rt rest L) (some (.int (nI (cntN em 48)))) := by
  refine Rd.of (cc := b_WS_countMarks) (maxL := 6) (ret := (some .int)) (own := R_WS) (by decide) rfl rfl (Nat.le_of_ble_eq_true rfl) ?_
  intro p e s m args below meth c C0 hr hlk hP ls hl
  have hl : lv_has ls 6 [(0, .ref (a 6))] := hl
  refine lv_iconst (v := nI 0) C0.1 C0.2.1 d_WS_countMarks_0 (by decide) ?_
  refine lv_istore_n (lv' := [(1, .int (nI 0)), (0, .ref (a 6))]) C0.1 C0.2.1 d_WS_countMarks_1 rfl hl (by decide) rfl (fun ls hl => ?_)
  refine lv_aload_n C0.1 C0.2.1 d_WS_countMarks_2 rfl (lv_at hl 1 rfl) ?_
  refine lv_astore_n (lv' := [(2, .ref (a 6)), (1, .int (nI 0)), (0, .ref (a 6))]) C0.1 C0.2.1 d_WS_countMarks_3 rfl hl (by decide) rfl (fun ls hl => ?_)
  refine lv_aload_n C0.1 C0.2.1 d_WS_countMarks_4 rfl (lv_at hl 0 rfl) ?_
  refine alen (n := 48) C0 hP 6 1 rfl rfl rfl d_WS_countMarks_5 ?_
  refine lv_istore_n (lv' := [(3, .int (nI 48)), (2, .ref (a 6)), (1, .int (nI 0)), (0, .ref (a 6))]) C0.1 C0.2.1 d_WS_countMarks_6 rfl hl (by decide) rfl (fun ls hl => ?_)
  refine lv_iconst (v := nI 0) C0.1 C0.2.1 d_WS_countMarks_7 (by decide) ?_
  refine lv_istore (lv' := [(4, .int (nI 0)), (3, .int (nI 48)), (2, .ref (a 6)), (1, .int (nI 0)), (0, .ref (a 6))]) C0.1 C0.2.1 d_WS_countMarks_8 hl (by decide) rfl (fun ls hl => ?_)
  refine wlR (σ := Nat) (head := 10) (fun z_ => 48 - z_) (fun z_ => z_ ≤ 48) (fun z_ => [(0, .ref (a 6)), (1, .int (nI (cntN em z_))), (2, .ref (a 6)), (3, .int (nI 48)), (4, .int (nI z_))]) ?_ 0 (show 0 ≤ 48 from Nat.zero_le _) (lv_sub hl [4, 3, 2, 1, 0] rfl)
  rintro j hi ih ls hl
  have hi : j ≤ 48 := hi
  have hl : lv_has ls 6 [(0, .ref (a 6)), (1, .int (nI (cntN em j))), (2, .ref (a 6)), (3, .int (nI 48)), (4, .int (nI j))] := hl
  refine lv_iload C0.1 C0.2.1 d_WS_countMarks_10 (lv_at hl 4 rfl) ?_
  refine lv_iload_n C0.1 C0.2.1 d_WS_countMarks_12 rfl (lv_at hl 3 rfl) ?_
  refine lv_icmp_ge (tgt := 36) C0.1 C0.2.1 d_WS_countMarks_13 (by decide) (fun c_13 => ?_) (fun c_13 => ?_)
  · have hj : j = 48 := by have := (nI_leI (by omega) (by omega)).mp c_13; omega
    refine lv_iload_n C0.1 C0.2.1 d_WS_countMarks_36 rfl (lv_at hl 1 rfl) ?_
    exact eR_i C0 hr hlk (by rw [hj]) d_WS_countMarks_37
  · have hj : j < 48 := (nI_nle' (by omega) (by omega)).mp c_13
    refine lv_aload_n C0.1 C0.2.1 d_WS_countMarks_16 rfl (lv_at hl 2 rfl) ?_
    refine lv_iload C0.1 C0.2.1 d_WS_countMarks_17 (lv_at hl 4 rfl) ?_
    refine ald_z C0 hP 6 1 rfl rfl (by omega) (by decide) d_WS_countMarks_19 ?_
    refine lv_istore (lv' := [(5, .int (bI (em j))), (0, .ref (a 6)), (1, .int (nI (cntN em j))), (2, .ref (a 6)), (3, .int (nI 48)), (4, .int (nI j))]) C0.1 C0.2.1 d_WS_countMarks_20 hl (by decide) rfl (fun ls hl => ?_)
    refine lv_iload C0.1 C0.2.1 d_WS_countMarks_22 (lv_at hl 0 rfl) ?_
    refine lv_if_eq (tgt := 30) C0.1 C0.2.1 d_WS_countMarks_24 (by decide) (fun c_24 => ?_) (fun c_24 => ?_)
    · rw [← cntN_n (bI_0.mp c_24)] at hl
      refine lv_iinc (v := nI (j + 1)) (lv' := [(4, .int (nI (j + 1))), (5, .int (bI (em j))), (0, .ref (a 6)), (1, .int (nI (cntN em (j + 1)))), (2, .ref (a 6)), (3, .int (nI 48))]) C0.1 C0.2.1 d_WS_countMarks_30 hl (k := 5) rfl (inc1 _) (by decide) rfl (fun ls hl => ?_)
      refine lv_goto (tgt := 10) C0.1 C0.2.1 d_WS_countMarks_33 (by decide) ?_
      exact ih (j + 1) (show (j + 1) ≤ 48 from by omega) (show 48 - (j + 1) < 48 - j from by omega) ls (lv_sub hl [2, 3, 4, 5, 0] rfl)
    · refine lv_iinc (v := nI (cntN em (j + 1))) (lv' := [(1, .int (nI (cntN em (j + 1)))), (5, .int (bI (em j))), (0, .ref (a 6)), (2, .ref (a 6)), (3, .int (nI 48)), (4, .int (nI j))]) C0.1 C0.2.1 d_WS_countMarks_27 hl (k := 2) rfl (by rw [cntN_t (bI_n0.mp c_24)]; exact inc1 _) (by decide) rfl (fun ls hl => ?_)
      refine lv_iinc (v := nI (j + 1)) (lv' := [(4, .int (nI (j + 1))), (1, .int (nI (cntN em (j + 1)))), (5, .int (bI (em j))), (0, .ref (a 6)), (2, .ref (a 6)), (3, .int (nI 48))]) C0.1 C0.2.1 d_WS_countMarks_30 hl (k := 5) rfl (inc1 _) (by decide) rfl (fun ls hl => ?_)
      refine lv_goto (tgt := 10) C0.1 C0.2.1 d_WS_countMarks_33 (by decide) ?_
      exact ih (j + 1) (show (j + 1) ≤ 48 from by omega) (show 48 - (j + 1) < 48 - j from by omega) ls (lv_sub hl [3, 1, 4, 5, 0] rfl)
set_option maxHeartbeats 4000000 in
set_option maxRecDepth 100000 in
theorem c_WS_countLooseThings (hn : n ≤ 48) (hnp : np ≤ 96) (hea : ∀ j, j < np → ea j < n) (heb : ∀ j, j < np → eb j < n) : Rd l y_WS_countLooseThings w_WS_countLooseThings ({ frames := 1, cells := 0, slots := 0, locals := 22 }) g classes (tyL t) [.ref (a 0)] (wW a t n kd em br ii oo np ea eb li rn wa wn sT sP ak ap af tt ac ct rp rt rest L) (some (.int (nI (cntN (fun v => !anyN (endB ea eb v) np) n)))) := by
  refine Rd.of (cc := b_WS_countLooseThings) (maxL := 3) (ret := (some .int)) (own := R_WS) (by decide) rfl rfl (Nat.le_of_ble_eq_true rfl) ?_
  intro p e s m args below meth c C0 hr hlk hP ls hl
  have hl : lv_has ls 3 [(0, .ref (a 0))] := hl
  refine lv_iconst (v := nI 0) C0.1 C0.2.1 d_WS_countLooseThings_0 (by decide) ?_
  refine lv_istore_n (lv' := [(1, .int (nI 0)), (0, .ref (a 0))]) C0.1 C0.2.1 d_WS_countLooseThings_1 rfl hl (by decide) rfl (fun ls hl => ?_)
  refine lv_iconst (v := nI 0) C0.1 C0.2.1 d_WS_countLooseThings_2 (by decide) ?_
  refine lv_istore_n (lv' := [(2, .int (nI 0)), (1, .int (nI 0)), (0, .ref (a 0))]) C0.1 C0.2.1 d_WS_countLooseThings_3 rfl hl (by decide) rfl (fun ls hl => ?_)
  refine wlR (σ := Nat) (head := 4) (fun z_ => n - z_) (fun z_ => z_ ≤ n) (fun z_ => [(0, .ref (a 0)), (1, .int (nI (cntN (fun v => !anyN (endB ea eb v) np) z_))), (2, .int (nI z_))]) ?_ 0 (show 0 ≤ n from Nat.zero_le _) (lv_sub hl [2, 1, 0] rfl)
  rintro j hi ih ls hl
  have hi : j ≤ n := hi
  have hl : lv_has ls 3 [(0, .ref (a 0)), (1, .int (nI (cntN (fun v => !anyN (endB ea eb v) np) j))), (2, .int (nI j))] := hl
  refine lv_iload_n C0.1 C0.2.1 d_WS_countLooseThings_4 rfl (lv_at hl 2 rfl) ?_
  refine lv_aload_n C0.1 C0.2.1 d_WS_countLooseThings_5 rfl (lv_at hl 0 rfl) ?_
  refine gf_WS_10 C0 hP 0 rfl rfl d_WS_countLooseThings_6 ?_
  refine gf_WS_126 C0 hP 1 rfl rfl d_WS_countLooseThings_9 ?_
  refine lv_icmp_ge (tgt := 35) C0.1 C0.2.1 d_WS_countLooseThings_12 (by decide) (fun c_12 => ?_) (fun c_12 => ?_)
  · have hj : j = n := by have := (nI_leI (by omega) (by omega)).mp c_12; omega
    refine lv_iload_n C0.1 C0.2.1 d_WS_countLooseThings_35 rfl (lv_at hl 1 rfl) ?_
    exact eR_i C0 hr hlk (by rw [hj]) d_WS_countLooseThings_36
  · have hj : j < n := (nI_nle' (by omega) (by omega)).mp c_12
    refine lv_aload_n C0.1 C0.2.1 d_WS_countLooseThings_15 rfl (lv_at hl 0 rfl) ?_
    refine gf_WS_19 C0 hP 0 rfl rfl d_WS_countLooseThings_16 ?_
    refine lv_iload_n C0.1 C0.2.1 d_WS_countLooseThings_19 rfl (lv_at hl 2 rfl) ?_
    refine cR (As := [.int (nI j)]) (rest := []) C0 (c_PI_anyEndsAt j (by omega) hnp (fun i hi => by have := hea i hi; omega) (fun i hi => by have := heb i hi; omega)) (q_WS_146 C0.2.2.2.2.1 rfl rfl ⟨Nat.le_of_ble_eq_true rfl, Nat.le_of_ble_eq_true rfl⟩) (ci := 2) (q0 := 2) rfl rfl rfl hP hl.1 rfl rfl (Nat.le_of_ble_eq_true rfl) d_WS_countLooseThings_20 ⟨Nat.zero_le _, Nat.zero_le _⟩ ?_
    refine W.eq (g2 := F0 m 23 ls [.int (bI (anyN (endB ea eb j) np))]) rfl ?_
    refine lv_if_ne (tgt := 29) C0.1 C0.2.1 d_WS_countLooseThings_23 (by decide) (fun c_23 => ?_) (fun c_23 => ?_)
    · rw [← cntN_n (f := (fun v => !anyN (endB ea eb v) np)) (show (!anyN (endB ea eb j) np) = false by rw [bI_n0.mp c_23]; rfl)] at hl
      refine lv_iinc (v := nI (j + 1)) (lv' := [(2, .int (nI (j + 1))), (0, .ref (a 0)), (1, .int (nI (cntN (fun v => !anyN (endB ea eb v) np) (j + 1))))]) C0.1 C0.2.1 d_WS_countLooseThings_29 hl (k := 2) rfl (inc1 _) (by decide) rfl (fun ls hl => ?_)
      refine lv_goto (tgt := 4) C0.1 C0.2.1 d_WS_countLooseThings_32 (by decide) ?_
      exact ih (j + 1) (show (j + 1) ≤ n from by omega) (show n - (j + 1) < n - j from by omega) ls (lv_sub hl [1, 2, 0] rfl)
    · refine lv_iinc (v := nI (cntN (fun v => !anyN (endB ea eb v) np) (j + 1))) (lv' := [(1, .int (nI (cntN (fun v => !anyN (endB ea eb v) np) (j + 1)))), (0, .ref (a 0)), (2, .int (nI j))]) C0.1 C0.2.1 d_WS_countLooseThings_26 hl (k := 1) rfl (by rw [cntN_t (f := (fun v => !anyN (endB ea eb v) np)) (show (!anyN (endB ea eb j) np) = true by rw [bI_0.mp c_23]; rfl)]; exact inc1 _) (by decide) rfl (fun ls hl => ?_)
      refine lv_iinc (v := nI (j + 1)) (lv' := [(2, .int (nI (j + 1))), (1, .int (nI (cntN (fun v => !anyN (endB ea eb v) np) (j + 1)))), (0, .ref (a 0))]) C0.1 C0.2.1 d_WS_countLooseThings_29 hl (k := 2) rfl (inc1 _) (by decide) rfl (fun ls hl => ?_)
      refine lv_goto (tgt := 4) C0.1 C0.2.1 d_WS_countLooseThings_32 (by decide) ?_
      exact ih (j + 1) (show (j + 1) ≤ n from by omega) (show n - (j + 1) < n - j from by omega) ls (lv_sub hl [2, 1, 0] rfl)
set_option maxHeartbeats 4000000 in
set_option maxRecDepth 100000 in
theorem c_WS_refusalOfEnds (x y : Int32) (hn : n ≤ 48) (hk : ∀ j, kd j < 3) : Rd l y_WS_refusalOfEnds w_WS_refusalOfEnds ({ frames := 2, cells := 0, slots := 0, locals := 43 }) g classes (tyL t) [.ref (a 0), .int x, .int y] (wW a t n kd em br ii oo np ea eb li rn wa wn sT sP ak ap af tt ac ct rp rt rest L) (some (.int (refC n kd em x y))) := by
  refine Rd.of (cc := b_WS_refusalOfEnds) (maxL := 3) (ret := (some .int)) (own := R_WS) (by decide) rfl rfl (Nat.le_of_ble_eq_true rfl) ?_
  intro p e s m args below meth c C0 hr hlk hP ls hl
  have hl : lv_has ls 3 [(0, .ref (a 0)), (1, .int x), (2, .int y)] := hl
  refine lv_aload_n C0.1 C0.2.1 d_WS_refusalOfEnds_0 rfl (lv_at hl 0 rfl) ?_
  refine gf_WS_10 C0 hP 0 rfl rfl d_WS_refusalOfEnds_1 ?_
  refine lv_iload_n C0.1 C0.2.1 d_WS_refusalOfEnds_4 rfl (lv_at hl 1 rfl) ?_
  refine lv_iconst (v := nI 0) C0.1 C0.2.1 d_WS_refusalOfEnds_5 (by decide) ?_
  refine cR (As := [.int x, .int (nI 0)]) (rest := []) C0 (c_TH_isKind x 0 (by decide) hn hk) (q_WS_93 C0.2.2.2.2.1 rfl rfl ⟨Nat.le_of_ble_eq_true rfl, Nat.le_of_ble_eq_true rfl⟩) (ci := 1) (q0 := 1) rfl rfl rfl hP hl.1 rfl rfl (Nat.le_of_ble_eq_true rfl) d_WS_refusalOfEnds_6 ⟨Nat.zero_le _, Nat.zero_le _⟩ ?_
  refine W.eq (g2 := F0 m 9 ls [.int (bI (isK n kd x 0))]) rfl ?_
  refine lv_if_eq (tgt := 24) C0.1 C0.2.1 d_WS_refusalOfEnds_9 (by decide) (fun c_9 => ?_) (fun c_9 => ?_)
  · refine lv_bipush (v := -2) C0.1 C0.2.1 d_WS_refusalOfEnds_24 (by decide) ?_
    exact eR_i C0 hr hlk (by rw [refC_w (by rw [bI_0.mp c_9]; rfl)]) d_WS_refusalOfEnds_26
  · refine lv_aload_n C0.1 C0.2.1 d_WS_refusalOfEnds_12 rfl (lv_at hl 0 rfl) ?_
    refine gf_WS_10 C0 hP 0 rfl rfl d_WS_refusalOfEnds_13 ?_
    refine lv_iload_n C0.1 C0.2.1 d_WS_refusalOfEnds_16 rfl (lv_at hl 2 rfl) ?_
    refine lv_iconst (v := nI 0) C0.1 C0.2.1 d_WS_refusalOfEnds_17 (by decide) ?_
    refine cR (As := [.int y, .int (nI 0)]) (rest := []) C0 (c_TH_isKind y 0 (by decide) hn hk) (q_WS_93 C0.2.2.2.2.1 rfl rfl ⟨Nat.le_of_ble_eq_true rfl, Nat.le_of_ble_eq_true rfl⟩) (ci := 1) (q0 := 1) rfl rfl rfl hP hl.1 rfl rfl (Nat.le_of_ble_eq_true rfl) d_WS_refusalOfEnds_18 ⟨Nat.zero_le _, Nat.zero_le _⟩ ?_
    refine W.eq (g2 := F0 m 21 ls [.int (bI (isK n kd y 0))]) rfl ?_
    refine lv_if_ne (tgt := 27) C0.1 C0.2.1 d_WS_refusalOfEnds_21 (by decide) (fun c_21 => ?_) (fun c_21 => ?_)
    · refine lv_iload_n C0.1 C0.2.1 d_WS_refusalOfEnds_27 rfl (lv_at hl 1 rfl) ?_
      refine lv_iload_n C0.1 C0.2.1 d_WS_refusalOfEnds_28 rfl (lv_at hl 2 rfl) ?_
      refine lv_icmp_ne (tgt := 35) C0.1 C0.2.1 d_WS_refusalOfEnds_29 (by decide) (fun c_29 => ?_) (fun c_29 => ?_)
      · have c_9 := bI_n0.mp c_9
        have c_21 := bI_n0.mp c_21
        obtain ⟨i, hi, rfl, hki⟩ := isK_ex (by omega) c_9
        refine lv_aload_n C0.1 C0.2.1 d_WS_refusalOfEnds_35 rfl (lv_at hl 0 rfl) ?_
        refine gf_WS_10 C0 hP 0 rfl rfl d_WS_refusalOfEnds_36 ?_
        refine gf_WS_134 C0 hP 1 rfl rfl d_WS_refusalOfEnds_39 ?_
        refine lv_iload_n C0.1 C0.2.1 d_WS_refusalOfEnds_42 rfl (lv_at hl 1 rfl) ?_
        refine ald_z C0 hP 6 1 rfl rfl (by omega) (by decide) d_WS_refusalOfEnds_43 ?_
        refine lv_if_eq (tgt := 52) C0.1 C0.2.1 d_WS_refusalOfEnds_44 (by decide) (fun c_44 => ?_) (fun c_44 => ?_)
        · refine lv_iconst (v := nI 0) C0.1 C0.2.1 d_WS_refusalOfEnds_52 (by decide) ?_
          exact eR_i C0 hr hlk (by rw [refC_0 c_9 c_21 c_29 (by rw [nI_clamp (by omega)]; exact bI_0.mp c_44)]) d_WS_refusalOfEnds_53
        · refine lv_bipush (v := -4) C0.1 C0.2.1 d_WS_refusalOfEnds_47 (by decide) ?_
          refine lv_goto (tgt := 53) C0.1 C0.2.1 d_WS_refusalOfEnds_49 (by decide) ?_
          exact eR_i C0 hr hlk (by rw [refC_e c_9 c_21 c_29 (by rw [nI_clamp (by omega)]; exact bI_n0.mp c_44)]) d_WS_refusalOfEnds_53
      · refine lv_bipush (v := -3) C0.1 C0.2.1 d_WS_refusalOfEnds_32 (by decide) ?_
        exact eR_i C0 hr hlk (by rw [refC_s (bI_n0.mp c_9) (bI_n0.mp c_21) c_29]) d_WS_refusalOfEnds_34
    · refine lv_bipush (v := -2) C0.1 C0.2.1 d_WS_refusalOfEnds_24 (by decide) ?_
      exact eR_i C0 hr hlk (by rw [refC_w (by rw [bI_0.mp c_21, Bool.and_false])]) d_WS_refusalOfEnds_26
set_option maxHeartbeats 4000000 in
set_option maxRecDepth 100000 in
theorem c_WS_wayNumbered_no (x : Int32) (hwn : wn ≤ 64) (hno : hasB wn x = false) : Rd l y_WS_wayNumbered w_WS_wayNumbered ({ frames := 0, cells := 0, slots := 0, locals := 0 }) g classes (tyL t) [.ref (a 0), .int x] (wW a t n kd em br ii oo np ea eb li rn wa wn sT sP ak ap af tt ac ct rp rt rest L) (some .null) := by
  refine Rd.of (cc := b_WS_wayNumbered) (maxL := 2) (ret := (some (.object "WaySearch$FoundWay"))) (own := R_WS) (by decide) rfl rfl (Nat.le_of_ble_eq_true rfl) ?_
  intro p e s m args below meth c C0 hr hlk hP ls hl
  have hl : lv_has ls 2 [(0, .ref (a 0)), (1, .int x)] := hl
  refine lv_iload_n C0.1 C0.2.1 d_WS_wayNumbered_0 rfl (lv_at hl 1 rfl) ?_
  refine lv_if_lt (tgt := 21) C0.1 C0.2.1 d_WS_wayNumbered_1 (by decide) (fun c_1 => ?_) (fun c_1 => ?_)
  · refine lv_null C0.1 C0.2.1 d_WS_wayNumbered_21 ?_
    exact eR_a C0 hr (Or.inl ⟨_, rfl⟩) hlk (rfl) (Or.inl rfl) d_WS_wayNumbered_22
  · refine lv_iload_n C0.1 C0.2.1 d_WS_wayNumbered_4 rfl (lv_at hl 1 rfl) ?_
    refine lv_aload_n C0.1 C0.2.1 d_WS_wayNumbered_5 rfl (lv_at hl 0 rfl) ?_
    refine gf_WS_38 C0 hP 0 rfl rfl d_WS_wayNumbered_6 ?_
    refine lv_icmp_ge (tgt := 21) C0.1 C0.2.1 d_WS_wayNumbered_9 (by decide) (fun c_9 => ?_) (fun c_9 => ?_)
    · refine lv_null C0.1 C0.2.1 d_WS_wayNumbered_21 ?_
      exact eR_a C0 hr (Or.inl ⟨_, rfl⟩) hlk (rfl) (Or.inl rfl) d_WS_wayNumbered_22
    · exact absurd (hasB_t (by omega) c_1 c_9) (by rw [hno]; decide)
set_option maxHeartbeats 4000000 in
set_option maxRecDepth 100000 in
theorem c_WS_wayNumbered (i oa : Nat) (hwn : wn ≤ 64) (hi : i < wn) (hoa : wa i = some oa) : Rd l y_WS_wayNumbered w_WS_wayNumbered ({ frames := 0, cells := 0, slots := 0, locals := 0 }) g classes (tyL t) [.ref (a 0), .int (nI i)] (wW a t n kd em br ii oo np ea eb li rn wa wn sT sP ak ap af tt ac ct rp rt rest L) (some (.ref oa)) := by
  refine Rd.of (cc := b_WS_wayNumbered) (maxL := 2) (ret := (some (.object "WaySearch$FoundWay"))) (own := R_WS) (by decide) rfl rfl (Nat.le_of_ble_eq_true rfl) ?_
  intro p e s m args below meth c C0 hr hlk hP ls hl
  have hl : lv_has ls 2 [(0, .ref (a 0)), (1, .int (nI i))] := hl
  refine lv_iload_n C0.1 C0.2.1 d_WS_wayNumbered_0 rfl (lv_at hl 1 rfl) ?_
  refine lv_if_lt (tgt := 21) C0.1 C0.2.1 d_WS_wayNumbered_1 (by decide) (fun c_1 => ?_) (fun c_1 => ?_)
  · exact absurd c_1 (nI_pos (by omega))
  · refine lv_iload_n C0.1 C0.2.1 d_WS_wayNumbered_4 rfl (lv_at hl 1 rfl) ?_
    refine lv_aload_n C0.1 C0.2.1 d_WS_wayNumbered_5 rfl (lv_at hl 0 rfl) ?_
    refine gf_WS_38 C0 hP 0 rfl rfl d_WS_wayNumbered_6 ?_
    refine lv_icmp_ge (tgt := 21) C0.1 C0.2.1 d_WS_wayNumbered_9 (by decide) (fun c_9 => ?_) (fun c_9 => ?_)
    · exact absurd ((nI_leI (by omega) (by omega)).mp c_9) (by omega)
    · refine lv_aload_n C0.1 C0.2.1 d_WS_wayNumbered_12 rfl (lv_at hl 0 rfl) ?_
      refine gf_WS_34 C0 hP 0 rfl rfl d_WS_wayNumbered_13 ?_
      refine lv_iload_n C0.1 C0.2.1 d_WS_wayNumbered_16 rfl (lv_at hl 1 rfl) ?_
      refine ald_q C0 hP 4 3 rfl rfl (by omega) (by decide) d_WS_wayNumbered_17 ?_
      rw [hoa]
      refine W.eq (g2 := F0 m 18 ls [.ref oa]) rfl ?_
      refine lv_goto (tgt := 22) C0.1 C0.2.1 d_WS_wayNumbered_18 (by decide) ?_
      exact eR_a C0 hr (Or.inl ⟨_, rfl⟩) hlk (rfl) (Or.inr ⟨_, rfl⟩) d_WS_wayNumbered_22
set_option maxHeartbeats 4000000 in
set_option maxRecDepth 100000 in
theorem c_WS_tank_full (b0 : Bool) (hn : n = 48) : Rd l y_WS_tank w_WS_tank ({ frames := 1, cells := 0, slots := 0, locals := 22 }) g classes (tyL t) [.ref (a 0), .int (bI b0)] (wW a t n kd em br ii oo np ea eb li rn wa wn sT sP ak ap af tt ac ct rp rt rest L) (some (.int (-5))) := by
  refine Rd.of (cc := b_WS_tank) (maxL := 2) (ret := (some .int)) (own := R_WS) (by decide) rfl rfl (Nat.le_of_ble_eq_true rfl) ?_
  intro p e s m args below meth c C0 hr hlk hP ls hl
  have hl : lv_has ls 2 [(0, .ref (a 0)), (1, .int (bI b0))] := hl
  refine lv_aload_n C0.1 C0.2.1 d_WS_tank_0 rfl (lv_at hl 0 rfl) ?_
  refine gf_WS_10 C0 hP 0 rfl rfl d_WS_tank_1 ?_
  refine lv_iconst (v := nI 0) C0.1 C0.2.1 d_WS_tank_4 (by decide) ?_
  refine lv_iload_n C0.1 C0.2.1 d_WS_tank_5 rfl (lv_at hl 1 rfl) ?_
  refine cR (As := [.int (nI 0), .int (bI b0)]) (rest := []) C0 (c_TH_add_full (nI 0) b0 hn) (q_WS_42 C0.2.2.2.2.1 rfl rfl ⟨Nat.le_of_ble_eq_true rfl, Nat.le_of_ble_eq_true rfl⟩) (ci := 1) (q0 := 1) rfl rfl rfl hP hl.1 rfl rfl (Nat.le_of_ble_eq_true rfl) d_WS_tank_6 ⟨Nat.zero_le _, Nat.zero_le _⟩ ?_
  refine W.eq (g2 := F0 m 9 ls [.int (-5)]) rfl ?_
  exact eR_i C0 hr hlk (rfl) d_WS_tank_9
set_option maxHeartbeats 4000000 in
set_option maxRecDepth 100000 in
theorem c_WS_tank (b0 : Bool) (hn : n < 48) : Mt l y_WS_tank w_WS_tank ({ frames := 1, cells := 0, slots := 0, locals := 22 }) g classes (tyL t) [.ref (a 0), .int (bI b0)] (wW a t n kd em br ii oo np ea eb li rn wa wn sT sP ak ap af tt ac ct rp rt rest L) (S := Unit) (fun v _ => v = some (.int (nI n))) (fun _ => (wW a t (n + 1) (va_up kd n 0) (va_up em n b0) br (va_up ii n (-1)) (va_up oo n (-1)) np ea eb li rn wa wn sT sP ak ap af tt ac ct rp rt rest L)) 0 0 := by
  refine Mt.of (cc := b_WS_tank) (maxL := 2) (ret := (some .int)) (own := R_WS) (by decide) rfl rfl (Nat.le_of_ble_eq_true rfl) ?_
  intro p e s m args below meth c C0 hr hlk hin A hA hB ls hl
  have hl : lv_has ls 2 [(0, .ref (a 0)), (1, .int (bI b0))] := hl
  refine lv_aload_n C0.1 C0.2.1 d_WS_tank_0 rfl (lv_at hl 0 rfl) ?_
  refine gf_WS_10 C0 hB.1 0 rfl rfl d_WS_tank_1 ?_
  refine lv_iconst (v := nI 0) C0.1 C0.2.1 d_WS_tank_4 (by decide) ?_
  refine lv_iload_n C0.1 C0.2.1 d_WS_tank_5 rfl (lv_at hl 1 rfl) ?_
  refine cM (As := [.int (nI 0), .int (bI b0)]) (rest := []) C0 (c_TH_add 0 b0 hn) (q_WS_42 C0.2.2.2.2.1 rfl rfl ⟨Nat.le_of_ble_eq_true rfl, Nat.le_of_ble_eq_true rfl⟩) (ci := 1) (q0 := 1) rfl rfl rfl hB hl.1 rfl rfl (Nat.le_of_ble_eq_true rfl) d_WS_tank_6 ⟨Nat.zero_le _, Nat.zero_le _⟩ (fun v_6 u_6 H locs hp_6 hB => ?_)
  obtain rfl := hp_6
  have hB : wB g classes A s.heap (wW a t (n + 1) (va_up kd n 0) (va_up em n b0) br (va_up ii n (-1)) (va_up oo n (-1)) np ea eb li rn wa wn sT sP ak ap af tt ac ct rp rt rest L) H locs := hB
  refine W.eq (g2 := F0 m 9 ls [.int (nI n)]) rfl ?_
  exact eM_i C0 hr hlk () hB (rfl) (Nat.le_refl _) (Nat.le_refl _) d_WS_tank_9
set_option maxHeartbeats 4000000 in
set_option maxRecDepth 100000 in
theorem c_WS_pump_full (hn : n = 48) : Rd l y_WS_pump w_WS_pump ({ frames := 1, cells := 0, slots := 0, locals := 22 }) g classes (tyL t) [.ref (a 0)] (wW a t n kd em br ii oo np ea eb li rn wa wn sT sP ak ap af tt ac ct rp rt rest L) (some (.int (-5))) := by
  refine Rd.of (cc := b_WS_pump) (maxL := 1) (ret := (some .int)) (own := R_WS) (by decide) rfl rfl (Nat.le_of_ble_eq_true rfl) ?_
  intro p e s m args below meth c C0 hr hlk hP ls hl
  have hl : lv_has ls 1 [(0, .ref (a 0))] := hl
  refine lv_aload_n C0.1 C0.2.1 d_WS_pump_0 rfl (lv_at hl 0 rfl) ?_
  refine gf_WS_10 C0 hP 0 rfl rfl d_WS_pump_1 ?_
  refine lv_iconst (v := nI 1) C0.1 C0.2.1 d_WS_pump_4 (by decide) ?_
  refine lv_iconst (v := bI false) C0.1 C0.2.1 d_WS_pump_5 (by decide) ?_
  refine cR (As := [.int (nI 1), .int (bI false)]) (rest := []) C0 (c_TH_add_full (nI 1) false hn) (q_WS_42 C0.2.2.2.2.1 rfl rfl ⟨Nat.le_of_ble_eq_true rfl, Nat.le_of_ble_eq_true rfl⟩) (ci := 1) (q0 := 1) rfl rfl rfl hP hl.1 rfl rfl (Nat.le_of_ble_eq_true rfl) d_WS_pump_6 ⟨Nat.zero_le _, Nat.zero_le _⟩ ?_
  refine W.eq (g2 := F0 m 9 ls [.int (-5)]) rfl ?_
  exact eR_i C0 hr hlk (rfl) d_WS_pump_9
set_option maxHeartbeats 4000000 in
set_option maxRecDepth 100000 in
theorem c_WS_pump (hn : n < 48) : Mt l y_WS_pump w_WS_pump ({ frames := 1, cells := 0, slots := 0, locals := 22 }) g classes (tyL t) [.ref (a 0)] (wW a t n kd em br ii oo np ea eb li rn wa wn sT sP ak ap af tt ac ct rp rt rest L) (S := Unit) (fun v _ => v = some (.int (nI n))) (fun _ => (wW a t (n + 1) (va_up kd n 1) (va_up em n false) br (va_up ii n (-1)) (va_up oo n (-1)) np ea eb li rn wa wn sT sP ak ap af tt ac ct rp rt rest L)) 0 0 := by
  refine Mt.of (cc := b_WS_pump) (maxL := 1) (ret := (some .int)) (own := R_WS) (by decide) rfl rfl (Nat.le_of_ble_eq_true rfl) ?_
  intro p e s m args below meth c C0 hr hlk hin A hA hB ls hl
  have hl : lv_has ls 1 [(0, .ref (a 0))] := hl
  refine lv_aload_n C0.1 C0.2.1 d_WS_pump_0 rfl (lv_at hl 0 rfl) ?_
  refine gf_WS_10 C0 hB.1 0 rfl rfl d_WS_pump_1 ?_
  refine lv_iconst (v := nI 1) C0.1 C0.2.1 d_WS_pump_4 (by decide) ?_
  refine lv_iconst (v := bI false) C0.1 C0.2.1 d_WS_pump_5 (by decide) ?_
  refine cM (As := [.int (nI 1), .int (bI false)]) (rest := []) C0 (c_TH_add 1 false hn) (q_WS_42 C0.2.2.2.2.1 rfl rfl ⟨Nat.le_of_ble_eq_true rfl, Nat.le_of_ble_eq_true rfl⟩) (ci := 1) (q0 := 1) rfl rfl rfl hB hl.1 rfl rfl (Nat.le_of_ble_eq_true rfl) d_WS_pump_6 ⟨Nat.zero_le _, Nat.zero_le _⟩ (fun v_6 u_6 H locs hp_6 hB => ?_)
  obtain rfl := hp_6
  have hB : wB g classes A s.heap (wW a t (n + 1) (va_up kd n 1) (va_up em n false) br (va_up ii n (-1)) (va_up oo n (-1)) np ea eb li rn wa wn sT sP ak ap af tt ac ct rp rt rest L) H locs := hB
  refine W.eq (g2 := F0 m 9 ls [.int (nI n)]) rfl ?_
  exact eM_i C0 hr hlk () hB (rfl) (Nat.le_refl _) (Nat.le_refl _) d_WS_pump_9
set_option maxHeartbeats 4000000 in
set_option maxRecDepth 100000 in
theorem c_WS_valve_full (hn : n = 48) : Rd l y_WS_valve w_WS_valve ({ frames := 1, cells := 0, slots := 0, locals := 22 }) g classes (tyL t) [.ref (a 0)] (wW a t n kd em br ii oo np ea eb li rn wa wn sT sP ak ap af tt ac ct rp rt rest L) (some (.int (-5))) := by
  refine Rd.of (cc := b_WS_valve) (maxL := 1) (ret := (some .int)) (own := R_WS) (by decide) rfl rfl (Nat.le_of_ble_eq_true rfl) ?_
  intro p e s m args below meth c C0 hr hlk hP ls hl
  have hl : lv_has ls 1 [(0, .ref (a 0))] := hl
  refine lv_aload_n C0.1 C0.2.1 d_WS_valve_0 rfl (lv_at hl 0 rfl) ?_
  refine gf_WS_10 C0 hP 0 rfl rfl d_WS_valve_1 ?_
  refine lv_iconst (v := nI 2) C0.1 C0.2.1 d_WS_valve_4 (by decide) ?_
  refine lv_iconst (v := bI false) C0.1 C0.2.1 d_WS_valve_5 (by decide) ?_
  refine cR (As := [.int (nI 2), .int (bI false)]) (rest := []) C0 (c_TH_add_full (nI 2) false hn) (q_WS_42 C0.2.2.2.2.1 rfl rfl ⟨Nat.le_of_ble_eq_true rfl, Nat.le_of_ble_eq_true rfl⟩) (ci := 1) (q0 := 1) rfl rfl rfl hP hl.1 rfl rfl (Nat.le_of_ble_eq_true rfl) d_WS_valve_6 ⟨Nat.zero_le _, Nat.zero_le _⟩ ?_
  refine W.eq (g2 := F0 m 9 ls [.int (-5)]) rfl ?_
  exact eR_i C0 hr hlk (rfl) d_WS_valve_9
set_option maxHeartbeats 4000000 in
set_option maxRecDepth 100000 in
theorem c_WS_valve (hn : n < 48) : Mt l y_WS_valve w_WS_valve ({ frames := 1, cells := 0, slots := 0, locals := 22 }) g classes (tyL t) [.ref (a 0)] (wW a t n kd em br ii oo np ea eb li rn wa wn sT sP ak ap af tt ac ct rp rt rest L) (S := Unit) (fun v _ => v = some (.int (nI n))) (fun _ => (wW a t (n + 1) (va_up kd n 2) (va_up em n false) br (va_up ii n (-1)) (va_up oo n (-1)) np ea eb li rn wa wn sT sP ak ap af tt ac ct rp rt rest L)) 0 0 := by
  refine Mt.of (cc := b_WS_valve) (maxL := 1) (ret := (some .int)) (own := R_WS) (by decide) rfl rfl (Nat.le_of_ble_eq_true rfl) ?_
  intro p e s m args below meth c C0 hr hlk hin A hA hB ls hl
  have hl : lv_has ls 1 [(0, .ref (a 0))] := hl
  refine lv_aload_n C0.1 C0.2.1 d_WS_valve_0 rfl (lv_at hl 0 rfl) ?_
  refine gf_WS_10 C0 hB.1 0 rfl rfl d_WS_valve_1 ?_
  refine lv_iconst (v := nI 2) C0.1 C0.2.1 d_WS_valve_4 (by decide) ?_
  refine lv_iconst (v := bI false) C0.1 C0.2.1 d_WS_valve_5 (by decide) ?_
  refine cM (As := [.int (nI 2), .int (bI false)]) (rest := []) C0 (c_TH_add 2 false hn) (q_WS_42 C0.2.2.2.2.1 rfl rfl ⟨Nat.le_of_ble_eq_true rfl, Nat.le_of_ble_eq_true rfl⟩) (ci := 1) (q0 := 1) rfl rfl rfl hB hl.1 rfl rfl (Nat.le_of_ble_eq_true rfl) d_WS_valve_6 ⟨Nat.zero_le _, Nat.zero_le _⟩ (fun v_6 u_6 H locs hp_6 hB => ?_)
  obtain rfl := hp_6
  have hB : wB g classes A s.heap (wW a t (n + 1) (va_up kd n 2) (va_up em n false) br (va_up ii n (-1)) (va_up oo n (-1)) np ea eb li rn wa wn sT sP ak ap af tt ac ct rp rt rest L) H locs := hB
  refine W.eq (g2 := F0 m 9 ls [.int (nI n)]) rfl ?_
  exact eM_i C0 hr hlk () hB (rfl) (Nat.le_refl _) (Nat.le_refl _) d_WS_valve_9
end CALLS1
end
section
theorem fwd_1 {n : Nat} {kd : Nat → Nat} {np : Nat} {ea eb : Nat → Nat} {x y z : Int32} (h : isK n kd x 1 = false) : fwdB n kd np ea eb x y z = false := by
  unfold fwdB; rw [h]; rfl
theorem fwd_2 {n : Nat} {kd : Nat → Nat} {np : Nat} {ea eb : Nat → Nat} {x y z : Int32} (h : y = z) : fwdB n kd np ea eb x y z = false := by
  unfold fwdB; rw [decide_eq_false (fun q : ¬ y = z => q h), Bool.and_false]; rfl
theorem fwd_3 {n : Nat} {kd : Nat → Nat} {np : Nat} {ea eb : Nat → Nat} {x y z : Int32} (h : anyN (joinB ea eb x y) np = false) : fwdB n kd np ea eb x y z = false := by
  unfold fwdB; rw [h, Bool.false_and, Bool.and_false]
theorem fwd_4 {n : Nat} {kd : Nat → Nat} {np : Nat} {ea eb : Nat → Nat} {x y z : Int32} (h : anyN (joinB ea eb x z) np = false) : fwdB n kd np ea eb x y z = false := by
  unfold fwdB; rw [h, Bool.and_false, Bool.and_false]
theorem fwd_5 {n : Nat} {kd : Nat → Nat} {np : Nat} {ea eb : Nat → Nat} {x y z : Int32} (h1 : isK n kd x 1 = true) (h2 : ¬ y = z) (h3 : anyN (joinB ea eb x y) np = true) (h4 : anyN (joinB ea eb x z) np = true) : fwdB n kd np ea eb x y z = true := by
  unfold fwdB; rw [h1, decide_eq_true h2, h3, h4]; rfl
/-- the k-th valve on a row of things, or none -/
def vOf (kd : Nat → Nat) (tl : List Nat) (k : Int32) : Int32 := match (tl.filter (fun v => decide (kd v = 2)))[k.toNatClampNeg]? with
  | some v => if k < 0 then -1 else nI v
  | none => -1
theorem flt_s {kd : Nat → Nat} {tl : List Nat} {j : Nat} (hj : j < tl.length) : (tl.take (j + 1)).filter (fun v => decide (kd v = 2)) = (tl.take j).filter (fun v => decide (kd v = 2)) ++ (if kd (tl.getD j 0) = 2 then [tl.getD j 0] else []) := by
  have e : tl.getD j 0 = tl[j] := by simp [List.getD, hj]
  rw [List.take_add_one, List.filter_append, List.getElem?_eq_getElem hj, e]
  congr 1
  by_cases h : kd tl[j] = 2
  · rw [if_pos h]
    simp [List.filter_cons, h]
  · rw [if_neg h]
    simp [List.filter_cons, h]
theorem flt_cnt {kd : Nat → Nat} {tl : List Nat} {j : Nat} (hj : j < tl.length) : ((tl.take (j + 1)).filter (fun v => decide (kd v = 2))).length = ((tl.take j).filter (fun v => decide (kd v = 2))).length + (if kd (tl.getD j 0) = 2 then 1 else 0) := by
  rw [flt_s hj, List.length_append]
  split <;> rfl
theorem flt_pre {kd : Nat → Nat} {tl : List Nat} {j : Nat} (hj : j < tl.length) (h : kd (tl.getD j 0) = 2) : (tl.filter (fun v => decide (kd v = 2)))[((tl.take j).filter (fun v => decide (kd v = 2))).length]? = some (tl.getD j 0) := by
  have e : tl = tl.take (j + 1) ++ tl.drop (j + 1) := (List.take_append_drop _ _).symm
  have e2 : tl.filter (fun v => decide (kd v = 2)) = (tl.take (j + 1)).filter (fun v => decide (kd v = 2)) ++ (tl.drop (j + 1)).filter (fun v => decide (kd v = 2)) := by rw [← List.filter_append, ← e]
  rw [e2, flt_s hj, if_pos h, List.append_assoc, List.getElem?_append_right (Nat.le_refl _), Nat.sub_self]
  rfl
theorem vOf_neg {kd : Nat → Nat} {tl : List Nat} {k : Int32} (h : k < 0) : vOf kd tl k = -1 := by
  unfold vOf; split
  · rw [if_pos h]
  · rfl
theorem vOf_at {kd : Nat → Nat} {tl : List Nat} {k : Int32} {j : Nat} (hl : tl.length < 1000) (hj : j < tl.length) (h : kd (tl.getD j 0) = 2) (e : nI ((tl.take j).filter (fun v => decide (kd v = 2))).length = k) : vOf kd tl k = nI (tl.getD j 0) := by
  have hb : ((tl.take j).filter (fun v => decide (kd v = 2))).length < 2 ^ 31 := by
    have h1 := List.length_filter_le (fun v => decide (kd v = 2)) (tl.take j)
    have h2 : (tl.take j).length ≤ tl.length := by simp; omega
    omega
  unfold vOf
  rw [← e, nI_clamp hb, flt_pre hj h]
  show (if _ then _ else _) = _
  rw [if_neg (nI_pos hb)]
theorem vOf_no {kd : Nat → Nat} {tl : List Nat} {k : Int32} (hl : tl.length < 1000) (h : ∀ i, i < (tl.filter (fun v => decide (kd v = 2))).length → ¬ nI i = k) : vOf kd tl k = -1 := by
  unfold vOf
  split
  · rename_i v hv
    have hi := (List.getElem?_eq_some_iff.mp hv).1
    by_cases h0 : k < 0
    · rw [if_pos h0]
    · obtain ⟨j, hj, e⟩ := nI_of h0
      rw [e, nI_clamp hj] at hi
      exact absurd e.symm (h j hi)
  · rfl
/-- pipe k from the end of those that can be flushed back -/
def blw (kd : Nat → Nat) (pl tl : List Nat) (k : Nat) : Int32 := if (∀ i, i < k → kd (tl.getD (pl.length - 1 - i) 0) ≠ 1) ∧ k < pl.length then nI (pl.getD (pl.length - 1 - k) 0) else -1

section CALLS2
variable {l : Launch} {g : va_G} {t : Nat → ClassId} {a : Nat → Nat} {n : Nat} {kd : Nat → Nat} {em : Nat → Bool} {br : Nat → Bool} {ii : Nat → Int32} {oo : Nat → Int32} {np : Nat} {ea : Nat → Nat} {eb : Nat → Nat} {li : Nat → Nat} {rn : Nat → Bool} {wa : Nat → Option Nat} {wn : Nat} {sT : Nat → Bool} {sP : Nat → Bool} {ak : Nat} {ap : Nat → Nat} {af : Nat → Nat} {tt : Nat → Nat} {ac : Nat → Nat} {ct : Nat → Nat} {rp : Nat → Nat} {rt : Nat → Nat} {rest : va_W} {L : List Wy}
set_option maxHeartbeats 4000000 in
set_option maxRecDepth 100000 in
theorem c_WS_pipe_no (x y : Int32) (z : Int64) (hn : n ≤ 48) (hno : ¬ pipR n np x y z = 0) : Rd l y_WS_pipe w_WS_pipe ({ frames := 1, cells := 0, slots := 0, locals := 24 }) g classes (tyL t) [.ref (a 0), .int x, .int y, .long z] (wW a t n kd em br ii oo np ea eb li rn wa wn sT sP ak ap af tt ac ct rp rt rest L) (some (.int (pipR n np x y z))) := by
  refine Rd.of (cc := b_WS_pipe) (maxL := 5) (ret := (some .int)) (own := R_WS) (by decide) rfl rfl (Nat.le_of_ble_eq_true rfl) ?_
  intro p e s m args below meth c C0 hr hlk hP ls hl
  have hl : lv_has ls 5 [(0, .ref (a 0)), (1, .int x), (2, .int y), (3, .long z)] := hl
  refine lv_aload_n C0.1 C0.2.1 d_WS_pipe_0 rfl (lv_at hl 0 rfl) ?_
  refine gf_WS_10 C0 hP 0 rfl rfl d_WS_pipe_1 ?_
  refine lv_iload_n C0.1 C0.2.1 d_WS_pipe_4 rfl (lv_at hl 1 rfl) ?_
  refine cR (As := [.int x]) (rest := []) C0 (c_TH_has x hn) (q_WS_46 C0.2.2.2.2.1 rfl rfl ⟨Nat.le_of_ble_eq_true rfl, Nat.le_of_ble_eq_true rfl⟩) (ci := 1) (q0 := 1) rfl rfl rfl hP hl.1 rfl rfl (Nat.le_of_ble_eq_true rfl) d_WS_pipe_5 ⟨Nat.zero_le _, Nat.zero_le _⟩ ?_
  refine W.eq (g2 := F0 m 8 ls [.int (bI (hasB n x))]) rfl ?_
  refine lv_if_eq (tgt := 22) C0.1 C0.2.1 d_WS_pipe_8 (by decide) (fun c_8 => ?_) (fun c_8 => ?_)
  · refine lv_bipush (v := -2) C0.1 C0.2.1 d_WS_pipe_22 (by decide) ?_
    exact eR_i C0 hr hlk (by rw [pipR_w (by rw [bI_0.mp c_8]; rfl)]) d_WS_pipe_24
  · refine lv_aload_n C0.1 C0.2.1 d_WS_pipe_11 rfl (lv_at hl 0 rfl) ?_
    refine gf_WS_10 C0 hP 0 rfl rfl d_WS_pipe_12 ?_
    refine lv_iload_n C0.1 C0.2.1 d_WS_pipe_15 rfl (lv_at hl 2 rfl) ?_
    refine cR (As := [.int y]) (rest := []) C0 (c_TH_has y hn) (q_WS_46 C0.2.2.2.2.1 rfl rfl ⟨Nat.le_of_ble_eq_true rfl, Nat.le_of_ble_eq_true rfl⟩) (ci := 1) (q0 := 1) rfl rfl rfl hP hl.1 rfl rfl (Nat.le_of_ble_eq_true rfl) d_WS_pipe_16 ⟨Nat.zero_le _, Nat.zero_le _⟩ ?_
    refine W.eq (g2 := F0 m 19 ls [.int (bI (hasB n y))]) rfl ?_
    refine lv_if_ne (tgt := 25) C0.1 C0.2.1 d_WS_pipe_19 (by decide) (fun c_19 => ?_) (fun c_19 => ?_)
    · refine lv_lload_n C0.1 C0.2.1 d_WS_pipe_25 rfl (lv_at hl 3 rfl) ?_
      refine lv_lconst (v := lN 1) C0.1 C0.2.1 d_WS_pipe_26 rfl ?_
      refine W.lcmp C0.1 C0.2.1 d_WS_pipe_27 ?_
      refine lv_if_lt (tgt := 44) C0.1 C0.2.1 d_WS_pipe_28 (by decide) (fun c_28 => ?_) (fun c_28 => ?_)
      · refine lv_iconst (v := -1) C0.1 C0.2.1 d_WS_pipe_44 (by decide) ?_
        exact eR_i C0 hr hlk (by rw [pipR_n (bI_n0.mp c_8) (bI_n0.mp c_19) (Or.inl ((lg_cmp_lt _ _).mp c_28))]) d_WS_pipe_45
      · refine lv_lload_n C0.1 C0.2.1 d_WS_pipe_31 rfl (lv_at hl 3 rfl) ?_
        refine lv_ldc2 C0.1 C0.2.1 C0.2.2.2.1 (C0.2.2.2.2.1 _ k_WS_50) d_WS_pipe_32 ?_
        refine tl (show (1000000000 : Int64) = lN 1000000000 from rfl) ?_
        refine W.lcmp C0.1 C0.2.1 d_WS_pipe_35 ?_
        refine lv_if_gt (tgt := 44) C0.1 C0.2.1 d_WS_pipe_36 (by decide) (fun c_36 => ?_) (fun c_36 => ?_)
        · refine lv_iconst (v := -1) C0.1 C0.2.1 d_WS_pipe_44 (by decide) ?_
          exact eR_i C0 hr hlk (by rw [pipR_n (bI_n0.mp c_8) (bI_n0.mp c_19) (Or.inr (Or.inl ((lg_cmp_gt _ _).mp c_36)))]) d_WS_pipe_45
        · refine lv_iload_n C0.1 C0.2.1 d_WS_pipe_39 rfl (lv_at hl 1 rfl) ?_
          refine lv_iload_n C0.1 C0.2.1 d_WS_pipe_40 rfl (lv_at hl 2 rfl) ?_
          refine lv_icmp_ne (tgt := 46) C0.1 C0.2.1 d_WS_pipe_41 (by decide) (fun c_41 => ?_) (fun c_41 => ?_)
          · have h96 : np = 96 := by
              rcases Classical.em (np = 96) with q | q
              · exact q
              · exact absurd (pipR_0 (bI_n0.mp c_8) (bI_n0.mp c_19) (fun q => by rcases q with q | q | q; exact c_28 ((lg_cmp_lt _ _).mpr q); exact c_36 ((lg_cmp_gt _ _).mpr q); exact c_41 q) q) hno
            refine lv_aload_n C0.1 C0.2.1 d_WS_pipe_46 rfl (lv_at hl 0 rfl) ?_
            refine gf_WS_19 C0 hP 0 rfl rfl d_WS_pipe_47 ?_
            refine lv_iload_n C0.1 C0.2.1 d_WS_pipe_50 rfl (lv_at hl 1 rfl) ?_
            refine lv_iload_n C0.1 C0.2.1 d_WS_pipe_51 rfl (lv_at hl 2 rfl) ?_
            refine lv_lload_n C0.1 C0.2.1 d_WS_pipe_52 rfl (lv_at hl 3 rfl) ?_
            refine cR (As := [.int x, .int y, .long z]) (rest := []) C0 (c_PI_add_full x y z h96) (q_WS_52 C0.2.2.2.2.1 rfl rfl ⟨Nat.le_of_ble_eq_true rfl, Nat.le_of_ble_eq_true rfl⟩) (ci := 2) (q0 := 2) rfl rfl rfl hP hl.1 rfl rfl (Nat.le_of_ble_eq_true rfl) d_WS_pipe_53 ⟨Nat.zero_le _, Nat.zero_le _⟩ ?_
            refine W.eq (g2 := F0 m 56 ls [.int (-5)]) rfl ?_
            exact eR_i C0 hr hlk (by rw [pipR_f (bI_n0.mp c_8) (bI_n0.mp c_19) (fun q => by rcases q with q | q | q; exact c_28 ((lg_cmp_lt _ _).mpr q); exact c_36 ((lg_cmp_gt _ _).mpr q); exact c_41 q) h96]) d_WS_pipe_56
          · refine lv_iconst (v := -1) C0.1 C0.2.1 d_WS_pipe_44 (by decide) ?_
            exact eR_i C0 hr hlk (by rw [pipR_n (bI_n0.mp c_8) (bI_n0.mp c_19) (Or.inr (Or.inr c_41))]) d_WS_pipe_45
    · refine lv_bipush (v := -2) C0.1 C0.2.1 d_WS_pipe_22 (by decide) ?_
      exact eR_i C0 hr hlk (by rw [pipR_w (by rw [bI_0.mp c_19, Bool.and_false])]) d_WS_pipe_24
set_option maxHeartbeats 4000000 in
set_option maxRecDepth 100000 in
theorem c_WS_pipe (i j k : Nat) (hi : i < n) (hj : j < n) (hij : i ≠ j) (hk1 : 1 ≤ k) (hk2 : k ≤ 1000000000) (hn : n ≤ 48) (hnp : np < 96) : Mt l y_WS_pipe w_WS_pipe ({ frames := 1, cells := 0, slots := 0, locals := 24 }) g classes (tyL t) [.ref (a 0), .int (nI i), .int (nI j), .long (lN k)] (wW a t n kd em br ii oo np ea eb li rn wa wn sT sP ak ap af tt ac ct rp rt rest L) (S := Unit) (fun v _ => v = some (.int (nI np))) (fun _ => (wW a t n kd em br ii oo (np + 1) (va_up ea np i) (va_up eb np j) (va_up li np k) rn wa wn sT sP ak ap af tt ac ct rp rt rest L)) 0 0 := by
  refine Mt.of (cc := b_WS_pipe) (maxL := 5) (ret := (some .int)) (own := R_WS) (by decide) rfl rfl (Nat.le_of_ble_eq_true rfl) ?_
  intro p e s m args below meth c C0 hr hlk hin A hA hB ls hl
  have hl : lv_has ls 5 [(0, .ref (a 0)), (1, .int (nI i)), (2, .int (nI j)), (3, .long (lN k))] := hl
  refine lv_aload_n C0.1 C0.2.1 d_WS_pipe_0 rfl (lv_at hl 0 rfl) ?_
  refine gf_WS_10 C0 hB.1 0 rfl rfl d_WS_pipe_1 ?_
  refine lv_iload_n C0.1 C0.2.1 d_WS_pipe_4 rfl (lv_at hl 1 rfl) ?_
  refine cR (As := [.int (nI i)]) (rest := []) C0 (c_TH_has (nI i) hn) (q_WS_46 C0.2.2.2.2.1 rfl rfl ⟨Nat.le_of_ble_eq_true rfl, Nat.le_of_ble_eq_true rfl⟩) (ci := 1) (q0 := 1) rfl rfl rfl hB.1 hl.1 rfl rfl (Nat.le_of_ble_eq_true rfl) d_WS_pipe_5 ⟨Nat.zero_le _, Nat.zero_le _⟩ ?_
  refine W.eq (g2 := F0 m 8 ls [.int (bI (hasB n (nI i)))]) rfl ?_
  refine lv_if_eq (tgt := 22) C0.1 C0.2.1 d_WS_pipe_8 (by decide) (fun c_8 => ?_) (fun c_8 => ?_)
  · exact absurd (bI_0.mp c_8) (by rw [hasB_nI (by omega), decide_eq_true hi]; decide)
  · refine lv_aload_n C0.1 C0.2.1 d_WS_pipe_11 rfl (lv_at hl 0 rfl) ?_
    refine gf_WS_10 C0 hB.1 0 rfl rfl d_WS_pipe_12 ?_
    refine lv_iload_n C0.1 C0.2.1 d_WS_pipe_15 rfl (lv_at hl 2 rfl) ?_
    refine cR (As := [.int (nI j)]) (rest := []) C0 (c_TH_has (nI j) hn) (q_WS_46 C0.2.2.2.2.1 rfl rfl ⟨Nat.le_of_ble_eq_true rfl, Nat.le_of_ble_eq_true rfl⟩) (ci := 1) (q0 := 1) rfl rfl rfl hB.1 hl.1 rfl rfl (Nat.le_of_ble_eq_true rfl) d_WS_pipe_16 ⟨Nat.zero_le _, Nat.zero_le _⟩ ?_
    refine W.eq (g2 := F0 m 19 ls [.int (bI (hasB n (nI j)))]) rfl ?_
    refine lv_if_ne (tgt := 25) C0.1 C0.2.1 d_WS_pipe_19 (by decide) (fun c_19 => ?_) (fun c_19 => ?_)
    · refine lv_lload_n C0.1 C0.2.1 d_WS_pipe_25 rfl (lv_at hl 3 rfl) ?_
      refine lv_lconst (v := lN 1) C0.1 C0.2.1 d_WS_pipe_26 rfl ?_
      refine W.lcmp C0.1 C0.2.1 d_WS_pipe_27 ?_
      refine lv_if_lt (tgt := 44) C0.1 C0.2.1 d_WS_pipe_28 (by decide) (fun c_28 => ?_) (fun c_28 => ?_)
      · exact absurd ((pk_lLT (by omega) (by decide)).mp ((lg_cmp_lt _ _).mp c_28)) (by omega)
      · refine lv_lload_n C0.1 C0.2.1 d_WS_pipe_31 rfl (lv_at hl 3 rfl) ?_
        refine lv_ldc2 C0.1 C0.2.1 C0.2.2.2.1 (C0.2.2.2.2.1 _ k_WS_50) d_WS_pipe_32 ?_
        refine tl (show (1000000000 : Int64) = lN 1000000000 from rfl) ?_
        refine W.lcmp C0.1 C0.2.1 d_WS_pipe_35 ?_
        refine lv_if_gt (tgt := 44) C0.1 C0.2.1 d_WS_pipe_36 (by decide) (fun c_36 => ?_) (fun c_36 => ?_)
        · exact absurd ((pk_lLT (by decide) (by omega)).mp ((lg_cmp_gt _ _).mp c_36)) (by omega)
        · refine lv_iload_n C0.1 C0.2.1 d_WS_pipe_39 rfl (lv_at hl 1 rfl) ?_
          refine lv_iload_n C0.1 C0.2.1 d_WS_pipe_40 rfl (lv_at hl 2 rfl) ?_
          refine lv_icmp_ne (tgt := 46) C0.1 C0.2.1 d_WS_pipe_41 (by decide) (fun c_41 => ?_) (fun c_41 => ?_)
          · refine lv_aload_n C0.1 C0.2.1 d_WS_pipe_46 rfl (lv_at hl 0 rfl) ?_
            refine gf_WS_19 C0 hB.1 0 rfl rfl d_WS_pipe_47 ?_
            refine lv_iload_n C0.1 C0.2.1 d_WS_pipe_50 rfl (lv_at hl 1 rfl) ?_
            refine lv_iload_n C0.1 C0.2.1 d_WS_pipe_51 rfl (lv_at hl 2 rfl) ?_
            refine lv_lload_n C0.1 C0.2.1 d_WS_pipe_52 rfl (lv_at hl 3 rfl) ?_
            refine cM (As := [.int (nI i), .int (nI j), .long (lN k)]) (rest := []) C0 (c_PI_add i j k hnp) (q_WS_52 C0.2.2.2.2.1 rfl rfl ⟨Nat.le_of_ble_eq_true rfl, Nat.le_of_ble_eq_true rfl⟩) (ci := 2) (q0 := 2) rfl rfl rfl hB hl.1 rfl rfl (Nat.le_of_ble_eq_true rfl) d_WS_pipe_53 ⟨Nat.zero_le _, Nat.zero_le _⟩ (fun v_53 u_53 H locs hp_53 hB => ?_)
            obtain rfl := hp_53
            have hB : wB g classes A s.heap (wW a t n kd em br ii oo (np + 1) (va_up ea np i) (va_up eb np j) (va_up li np k) rn wa wn sT sP ak ap af tt ac ct rp rt rest L) H locs := hB
            refine W.eq (g2 := F0 m 56 ls [.int (nI np)]) rfl ?_
            exact eM_i C0 hr hlk () hB (rfl) (Nat.le_refl _) (Nat.le_refl _) d_WS_pipe_56
          · exact absurd ((nI_eq (by omega) (by omega)).mp c_41) hij
    · exact absurd (bI_0.mp c_19) (by rw [hasB_nI (by omega), decide_eq_true hj]; decide)
set_option maxHeartbeats 4000000 in
set_option maxRecDepth 100000 in
theorem c_WS_run_no (x : Int32) (b0 : Bool) (hn : np ≤ 96) (hno : hasB np x = false) : Rd l y_WS_run w_WS_run ({ frames := 1, cells := 0, slots := 0, locals := 23 }) g classes (tyL t) [.ref (a 0), .int x, .int (bI b0)] (wW a t n kd em br ii oo np ea eb li rn wa wn sT sP ak ap af tt ac ct rp rt rest L) (some (.int (bI false))) := by
  refine Rd.of (cc := b_WS_run) (maxL := 3) (ret := (some .boolean)) (own := R_WS) (by decide) rfl rfl (Nat.le_of_ble_eq_true rfl) ?_
  intro p e s m args below meth c C0 hr hlk hP ls hl
  have hl : lv_has ls 3 [(0, .ref (a 0)), (1, .int x), (2, .int (bI b0))] := hl
  refine lv_aload_n C0.1 C0.2.1 d_WS_run_0 rfl (lv_at hl 0 rfl) ?_
  refine gf_WS_19 C0 hP 0 rfl rfl d_WS_run_1 ?_
  refine lv_iload_n C0.1 C0.2.1 d_WS_run_4 rfl (lv_at hl 1 rfl) ?_
  refine cR (As := [.int x]) (rest := []) C0 (c_PI_has x hn) (q_WS_55 C0.2.2.2.2.1 rfl rfl ⟨Nat.le_of_ble_eq_true rfl, Nat.le_of_ble_eq_true rfl⟩) (ci := 2) (q0 := 2) rfl rfl rfl hP hl.1 rfl rfl (Nat.le_of_ble_eq_true rfl) d_WS_run_5 ⟨Nat.zero_le _, Nat.zero_le _⟩ ?_
  refine W.eq (g2 := F0 m 8 ls [.int (bI (hasB np x))]) rfl ?_
  refine lv_if_ne (tgt := 13) C0.1 C0.2.1 d_WS_run_8 (by decide) (fun c_8 => ?_) (fun c_8 => ?_)
  · exact absurd hno (by rw [bI_n0.mp c_8]; decide)
  · refine lv_iconst (v := nI 0) C0.1 C0.2.1 d_WS_run_11 (by decide) ?_
    exact eR_z C0 hr hlk (b := false) (rfl) rfl d_WS_run_12
set_option maxHeartbeats 4000000 in
set_option maxRecDepth 100000 in
theorem c_WS_run (p0 : Nat) (b0 : Bool) (hn : np ≤ 96) (hp0 : p0 < np) : Mt l y_WS_run w_WS_run ({ frames := 1, cells := 0, slots := 0, locals := 23 }) g classes (tyL t) [.ref (a 0), .int (nI p0), .int (bI b0)] (wW a t n kd em br ii oo np ea eb li rn wa wn sT sP ak ap af tt ac ct rp rt rest L) (S := Unit) (fun v _ => v = some (.int (bI (decide (¬ rn p0 = b0))))) (fun _ => (wW a t n kd em br ii oo np ea eb li (va_up rn p0 b0) wa wn sT sP ak ap af tt ac ct rp rt rest L)) 0 0 := by
  refine Mt.of (cc := b_WS_run) (maxL := 3) (ret := (some .boolean)) (own := R_WS) (by decide) rfl rfl (Nat.le_of_ble_eq_true rfl) ?_
  intro p e s m args below meth c C0 hr hlk hin A hA hB ls hl
  have hl : lv_has ls 3 [(0, .ref (a 0)), (1, .int (nI p0)), (2, .int (bI b0))] := hl
  refine lv_aload_n C0.1 C0.2.1 d_WS_run_0 rfl (lv_at hl 0 rfl) ?_
  refine gf_WS_19 C0 hB.1 0 rfl rfl d_WS_run_1 ?_
  refine lv_iload_n C0.1 C0.2.1 d_WS_run_4 rfl (lv_at hl 1 rfl) ?_
  refine cR (As := [.int (nI p0)]) (rest := []) C0 (c_PI_has (nI p0) hn) (q_WS_55 C0.2.2.2.2.1 rfl rfl ⟨Nat.le_of_ble_eq_true rfl, Nat.le_of_ble_eq_true rfl⟩) (ci := 2) (q0 := 2) rfl rfl rfl hB.1 hl.1 rfl rfl (Nat.le_of_ble_eq_true rfl) d_WS_run_5 ⟨Nat.zero_le _, Nat.zero_le _⟩ ?_
  refine W.eq (g2 := F0 m 8 ls [.int (bI (hasB np (nI p0)))]) rfl ?_
  refine lv_if_ne (tgt := 13) C0.1 C0.2.1 d_WS_run_8 (by decide) (fun c_8 => ?_) (fun c_8 => ?_)
  · refine lv_aload_n C0.1 C0.2.1 d_WS_run_13 rfl (lv_at hl 0 rfl) ?_
    refine gf_WS_19 C0 hB.1 0 rfl rfl d_WS_run_14 ?_
    refine gf_WS_56 C0 hB.1 2 rfl rfl d_WS_run_17 ?_
    refine lv_iload_n C0.1 C0.2.1 d_WS_run_20 rfl (lv_at hl 1 rfl) ?_
    refine lv_iload_n C0.1 C0.2.1 d_WS_run_21 rfl (lv_at hl 2 rfl) ?_
    refine cMS (As := [.ref (a 13), .int (nI p0), .int (bI b0)]) (rest := []) C0 (c_WS_changeMark_rn p0 b0 (by omega)) (q_WS_60 C0.2.2.2.2.1 rfl rfl ⟨Nat.le_of_ble_eq_true rfl, Nat.le_of_ble_eq_true rfl⟩) hB hl.1 rfl rfl (Nat.le_of_ble_eq_true rfl) d_WS_run_22 ⟨Nat.zero_le _, Nat.zero_le _⟩ (fun v_22 u_22 H locs hp_22 hB => ?_)
    obtain rfl := hp_22
    have hB : wB g classes A s.heap (wW a t n kd em br ii oo np ea eb li (va_up rn p0 b0) wa wn sT sP ak ap af tt ac ct rp rt rest L) H locs := hB
    refine W.eq (g2 := F0 m 25 ls [.int (bI (decide (¬ rn p0 = b0)))]) rfl ?_
    exact eM_z C0 hr hlk (b := (decide (¬ rn p0 = b0))) () rfl hB rfl (Nat.le_refl _) (Nat.le_refl _) d_WS_run_25
  · exact absurd (bI_0.mp c_8) (by rw [hasB_nI (by omega), decide_eq_true hp0]; decide)
set_option maxHeartbeats 4000000 in
set_option maxRecDepth 100000 in
theorem c_WS_bar_no (x : Int32) (b0 : Bool) (hn : n ≤ 48) (hno : hasB n x = false) : Rd l y_WS_bar w_WS_bar ({ frames := 1, cells := 0, slots := 0, locals := 23 }) g classes (tyL t) [.ref (a 0), .int x, .int (bI b0)] (wW a t n kd em br ii oo np ea eb li rn wa wn sT sP ak ap af tt ac ct rp rt rest L) (some (.int (bI false))) := by
  refine Rd.of (cc := b_WS_bar) (maxL := 3) (ret := (some .boolean)) (own := R_WS) (by decide) rfl rfl (Nat.le_of_ble_eq_true rfl) ?_
  intro p e s m args below meth c C0 hr hlk hP ls hl
  have hl : lv_has ls 3 [(0, .ref (a 0)), (1, .int x), (2, .int (bI b0))] := hl
  refine lv_aload_n C0.1 C0.2.1 d_WS_bar_0 rfl (lv_at hl 0 rfl) ?_
  refine gf_WS_10 C0 hP 0 rfl rfl d_WS_bar_1 ?_
  refine lv_iload_n C0.1 C0.2.1 d_WS_bar_4 rfl (lv_at hl 1 rfl) ?_
  refine cR (As := [.int x]) (rest := []) C0 (c_TH_has x hn) (q_WS_46 C0.2.2.2.2.1 rfl rfl ⟨Nat.le_of_ble_eq_true rfl, Nat.le_of_ble_eq_true rfl⟩) (ci := 1) (q0 := 1) rfl rfl rfl hP hl.1 rfl rfl (Nat.le_of_ble_eq_true rfl) d_WS_bar_5 ⟨Nat.zero_le _, Nat.zero_le _⟩ ?_
  refine W.eq (g2 := F0 m 8 ls [.int (bI (hasB n x))]) rfl ?_
  refine lv_if_ne (tgt := 13) C0.1 C0.2.1 d_WS_bar_8 (by decide) (fun c_8 => ?_) (fun c_8 => ?_)
  · exact absurd hno (by rw [bI_n0.mp c_8]; decide)
  · refine lv_iconst (v := nI 0) C0.1 C0.2.1 d_WS_bar_11 (by decide) ?_
    exact eR_z C0 hr hlk (b := false) (rfl) rfl d_WS_bar_12
set_option maxHeartbeats 4000000 in
set_option maxRecDepth 100000 in
theorem c_WS_bar (p0 : Nat) (b0 : Bool) (hn : n ≤ 48) (hp0 : p0 < n) : Mt l y_WS_bar w_WS_bar ({ frames := 1, cells := 0, slots := 0, locals := 23 }) g classes (tyL t) [.ref (a 0), .int (nI p0), .int (bI b0)] (wW a t n kd em br ii oo np ea eb li rn wa wn sT sP ak ap af tt ac ct rp rt rest L) (S := Unit) (fun v _ => v = some (.int (bI (decide (¬ br p0 = b0))))) (fun _ => (wW a t n kd em (va_up br p0 b0) ii oo np ea eb li rn wa wn sT sP ak ap af tt ac ct rp rt rest L)) 0 0 := by
  refine Mt.of (cc := b_WS_bar) (maxL := 3) (ret := (some .boolean)) (own := R_WS) (by decide) rfl rfl (Nat.le_of_ble_eq_true rfl) ?_
  intro p e s m args below meth c C0 hr hlk hin A hA hB ls hl
  have hl : lv_has ls 3 [(0, .ref (a 0)), (1, .int (nI p0)), (2, .int (bI b0))] := hl
  refine lv_aload_n C0.1 C0.2.1 d_WS_bar_0 rfl (lv_at hl 0 rfl) ?_
  refine gf_WS_10 C0 hB.1 0 rfl rfl d_WS_bar_1 ?_
  refine lv_iload_n C0.1 C0.2.1 d_WS_bar_4 rfl (lv_at hl 1 rfl) ?_
  refine cR (As := [.int (nI p0)]) (rest := []) C0 (c_TH_has (nI p0) hn) (q_WS_46 C0.2.2.2.2.1 rfl rfl ⟨Nat.le_of_ble_eq_true rfl, Nat.le_of_ble_eq_true rfl⟩) (ci := 1) (q0 := 1) rfl rfl rfl hB.1 hl.1 rfl rfl (Nat.le_of_ble_eq_true rfl) d_WS_bar_5 ⟨Nat.zero_le _, Nat.zero_le _⟩ ?_
  refine W.eq (g2 := F0 m 8 ls [.int (bI (hasB n (nI p0)))]) rfl ?_
  refine lv_if_ne (tgt := 13) C0.1 C0.2.1 d_WS_bar_8 (by decide) (fun c_8 => ?_) (fun c_8 => ?_)
  · refine lv_aload_n C0.1 C0.2.1 d_WS_bar_13 rfl (lv_at hl 0 rfl) ?_
    refine gf_WS_10 C0 hB.1 0 rfl rfl d_WS_bar_14 ?_
    refine gf_WS_64 C0 hB.1 1 rfl rfl d_WS_bar_17 ?_
    refine lv_iload_n C0.1 C0.2.1 d_WS_bar_20 rfl (lv_at hl 1 rfl) ?_
    refine lv_iload_n C0.1 C0.2.1 d_WS_bar_21 rfl (lv_at hl 2 rfl) ?_
    refine cMS (As := [.ref (a 7), .int (nI p0), .int (bI b0)]) (rest := []) C0 (c_WS_changeMark_br p0 b0 (by omega)) (q_WS_60 C0.2.2.2.2.1 rfl rfl ⟨Nat.le_of_ble_eq_true rfl, Nat.le_of_ble_eq_true rfl⟩) hB hl.1 rfl rfl (Nat.le_of_ble_eq_true rfl) d_WS_bar_22 ⟨Nat.zero_le _, Nat.zero_le _⟩ (fun v_22 u_22 H locs hp_22 hB => ?_)
    obtain rfl := hp_22
    have hB : wB g classes A s.heap (wW a t n kd em (va_up br p0 b0) ii oo np ea eb li rn wa wn sT sP ak ap af tt ac ct rp rt rest L) H locs := hB
    refine W.eq (g2 := F0 m 25 ls [.int (bI (decide (¬ br p0 = b0)))]) rfl ?_
    exact eM_z C0 hr hlk (b := (decide (¬ br p0 = b0))) () rfl hB rfl (Nat.le_refl _) (Nat.le_refl _) d_WS_bar_25
  · exact absurd (bI_0.mp c_8) (by rw [hasB_nI (by omega), decide_eq_true hp0]; decide)
set_option maxHeartbeats 4000000 in
set_option maxRecDepth 100000 in
theorem c_WS_forward_no (x y z : Int32) (hn : n ≤ 48) (hnp : np ≤ 96) (hk : ∀ j, kd j < 3) (hno : fwdB n kd np ea eb x y z = false) : Rd l y_WS_forward w_WS_forward ({ frames := 2, cells := 0, slots := 0, locals := 43 }) g classes (tyL t) [.ref (a 0), .int x, .int y, .int z] (wW a t n kd em br ii oo np ea eb li rn wa wn sT sP ak ap af tt ac ct rp rt rest L) (some (.int (bI false))) := by
  refine Rd.of (cc := b_WS_forward) (maxL := 4) (ret := (some .boolean)) (own := R_WS) (by decide) rfl rfl (Nat.le_of_ble_eq_true rfl) ?_
  intro p e s m args below meth c C0 hr hlk hP ls hl
  have hl : lv_has ls 4 [(0, .ref (a 0)), (1, .int x), (2, .int y), (3, .int z)] := hl
  refine lv_aload_n C0.1 C0.2.1 d_WS_forward_0 rfl (lv_at hl 0 rfl) ?_
  refine gf_WS_10 C0 hP 0 rfl rfl d_WS_forward_1 ?_
  refine lv_iload_n C0.1 C0.2.1 d_WS_forward_4 rfl (lv_at hl 1 rfl) ?_
  refine lv_iconst (v := nI 1) C0.1 C0.2.1 d_WS_forward_5 (by decide) ?_
  refine cR (As := [.int x, .int (nI 1)]) (rest := []) C0 (c_TH_isKind x 1 (by decide) hn hk) (q_WS_93 C0.2.2.2.2.1 rfl rfl ⟨Nat.le_of_ble_eq_true rfl, Nat.le_of_ble_eq_true rfl⟩) (ci := 1) (q0 := 1) rfl rfl rfl hP hl.1 rfl rfl (Nat.le_of_ble_eq_true rfl) d_WS_forward_6 ⟨Nat.zero_le _, Nat.zero_le _⟩ ?_
  refine W.eq (g2 := F0 m 9 ls [.int (bI (isK n kd x 1))]) rfl ?_
  refine lv_if_eq (tgt := 17) C0.1 C0.2.1 d_WS_forward_9 (by decide) (fun c_9 => ?_) (fun c_9 => ?_)
  · refine lv_iconst (v := nI 0) C0.1 C0.2.1 d_WS_forward_17 (by decide) ?_
    exact eR_z C0 hr hlk (b := false) (rfl) rfl d_WS_forward_18
  · refine lv_iload_n C0.1 C0.2.1 d_WS_forward_12 rfl (lv_at hl 2 rfl) ?_
    refine lv_iload_n C0.1 C0.2.1 d_WS_forward_13 rfl (lv_at hl 3 rfl) ?_
    refine lv_icmp_ne (tgt := 19) C0.1 C0.2.1 d_WS_forward_14 (by decide) (fun c_14 => ?_) (fun c_14 => ?_)
    · refine lv_aload_n C0.1 C0.2.1 d_WS_forward_19 rfl (lv_at hl 0 rfl) ?_
      refine gf_WS_19 C0 hP 0 rfl rfl d_WS_forward_20 ?_
      refine lv_iload_n C0.1 C0.2.1 d_WS_forward_23 rfl (lv_at hl 1 rfl) ?_
      refine lv_iload_n C0.1 C0.2.1 d_WS_forward_24 rfl (lv_at hl 2 rfl) ?_
      refine cR (As := [.int x, .int y]) (rest := []) C0 (c_PI_anyJoins x y hnp) (q_WS_117 C0.2.2.2.2.1 rfl rfl ⟨Nat.le_of_ble_eq_true rfl, Nat.le_of_ble_eq_true rfl⟩) (ci := 2) (q0 := 2) rfl rfl rfl hP hl.1 rfl rfl (Nat.le_of_ble_eq_true rfl) d_WS_forward_25 ⟨Nat.zero_le _, Nat.zero_le _⟩ ?_
      refine W.eq (g2 := F0 m 28 ls [.int (bI (anyN (joinB ea eb x y) np))]) rfl ?_
      refine lv_if_eq (tgt := 43) C0.1 C0.2.1 d_WS_forward_28 (by decide) (fun c_28 => ?_) (fun c_28 => ?_)
      · refine lv_iconst (v := nI 0) C0.1 C0.2.1 d_WS_forward_43 (by decide) ?_
        exact eR_z C0 hr hlk (b := false) (rfl) rfl d_WS_forward_44
      · refine lv_aload_n C0.1 C0.2.1 d_WS_forward_31 rfl (lv_at hl 0 rfl) ?_
        refine gf_WS_19 C0 hP 0 rfl rfl d_WS_forward_32 ?_
        refine lv_iload_n C0.1 C0.2.1 d_WS_forward_35 rfl (lv_at hl 1 rfl) ?_
        refine lv_iload_n C0.1 C0.2.1 d_WS_forward_36 rfl (lv_at hl 3 rfl) ?_
        refine cR (As := [.int x, .int z]) (rest := []) C0 (c_PI_anyJoins x z hnp) (q_WS_117 C0.2.2.2.2.1 rfl rfl ⟨Nat.le_of_ble_eq_true rfl, Nat.le_of_ble_eq_true rfl⟩) (ci := 2) (q0 := 2) rfl rfl rfl hP hl.1 rfl rfl (Nat.le_of_ble_eq_true rfl) d_WS_forward_37 ⟨Nat.zero_le _, Nat.zero_le _⟩ ?_
        refine W.eq (g2 := F0 m 40 ls [.int (bI (anyN (joinB ea eb x z) np))]) rfl ?_
        refine lv_if_ne (tgt := 45) C0.1 C0.2.1 d_WS_forward_40 (by decide) (fun c_40 => ?_) (fun c_40 => ?_)
        · exact absurd (fwd_5 (bI_n0.mp c_9) c_14 (bI_n0.mp c_28) (bI_n0.mp c_40)) (by rw [hno]; decide)
        · refine lv_iconst (v := nI 0) C0.1 C0.2.1 d_WS_forward_43 (by decide) ?_
          exact eR_z C0 hr hlk (b := false) (rfl) rfl d_WS_forward_44
    · refine lv_iconst (v := nI 0) C0.1 C0.2.1 d_WS_forward_17 (by decide) ?_
      exact eR_z C0 hr hlk (b := false) (rfl) rfl d_WS_forward_18
set_option maxHeartbeats 4000000 in
set_option maxRecDepth 100000 in
theorem c_WS_forward (i : Nat) (y z : Int32) (hi : i < n) (hn : n ≤ 48) (hnp : np ≤ 96) (hk : ∀ j, kd j < 3) (hyes : fwdB n kd np ea eb (nI i) y z = true) : Mt l y_WS_forward w_WS_forward ({ frames := 2, cells := 0, slots := 0, locals := 43 }) g classes (tyL t) [.ref (a 0), .int (nI i), .int y, .int z] (wW a t n kd em br ii oo np ea eb li rn wa wn sT sP ak ap af tt ac ct rp rt rest L) (S := Unit) (fun v _ => v = some (.int (bI true))) (fun _ => (wW a t n kd em br (va_up ii i y) (va_up oo i z) np ea eb li rn wa wn sT sP ak ap af tt ac ct rp rt rest L)) 0 0 := by
  refine Mt.of (cc := b_WS_forward) (maxL := 4) (ret := (some .boolean)) (own := R_WS) (by decide) rfl rfl (Nat.le_of_ble_eq_true rfl) ?_
  intro p e s m args below meth c C0 hr hlk hin A hA hB ls hl
  have hl : lv_has ls 4 [(0, .ref (a 0)), (1, .int (nI i)), (2, .int y), (3, .int z)] := hl
  refine lv_aload_n C0.1 C0.2.1 d_WS_forward_0 rfl (lv_at hl 0 rfl) ?_
  refine gf_WS_10 C0 hB.1 0 rfl rfl d_WS_forward_1 ?_
  refine lv_iload_n C0.1 C0.2.1 d_WS_forward_4 rfl (lv_at hl 1 rfl) ?_
  refine lv_iconst (v := nI 1) C0.1 C0.2.1 d_WS_forward_5 (by decide) ?_
  refine cR (As := [.int (nI i), .int (nI 1)]) (rest := []) C0 (c_TH_isKind (nI i) 1 (by decide) hn hk) (q_WS_93 C0.2.2.2.2.1 rfl rfl ⟨Nat.le_of_ble_eq_true rfl, Nat.le_of_ble_eq_true rfl⟩) (ci := 1) (q0 := 1) rfl rfl rfl hB.1 hl.1 rfl rfl (Nat.le_of_ble_eq_true rfl) d_WS_forward_6 ⟨Nat.zero_le _, Nat.zero_le _⟩ ?_
  refine W.eq (g2 := F0 m 9 ls [.int (bI (isK n kd (nI i) 1))]) rfl ?_
  refine lv_if_eq (tgt := 17) C0.1 C0.2.1 d_WS_forward_9 (by decide) (fun c_9 => ?_) (fun c_9 => ?_)
  · exact absurd (fwd_1 (bI_0.mp c_9)) (by rw [hyes]; decide)
  · refine lv_iload_n C0.1 C0.2.1 d_WS_forward_12 rfl (lv_at hl 2 rfl) ?_
    refine lv_iload_n C0.1 C0.2.1 d_WS_forward_13 rfl (lv_at hl 3 rfl) ?_
    refine lv_icmp_ne (tgt := 19) C0.1 C0.2.1 d_WS_forward_14 (by decide) (fun c_14 => ?_) (fun c_14 => ?_)
    · refine lv_aload_n C0.1 C0.2.1 d_WS_forward_19 rfl (lv_at hl 0 rfl) ?_
      refine gf_WS_19 C0 hB.1 0 rfl rfl d_WS_forward_20 ?_
      refine lv_iload_n C0.1 C0.2.1 d_WS_forward_23 rfl (lv_at hl 1 rfl) ?_
      refine lv_iload_n C0.1 C0.2.1 d_WS_forward_24 rfl (lv_at hl 2 rfl) ?_
      refine cR (As := [.int (nI i), .int y]) (rest := []) C0 (c_PI_anyJoins (nI i) y hnp) (q_WS_117 C0.2.2.2.2.1 rfl rfl ⟨Nat.le_of_ble_eq_true rfl, Nat.le_of_ble_eq_true rfl⟩) (ci := 2) (q0 := 2) rfl rfl rfl hB.1 hl.1 rfl rfl (Nat.le_of_ble_eq_true rfl) d_WS_forward_25 ⟨Nat.zero_le _, Nat.zero_le _⟩ ?_
      refine W.eq (g2 := F0 m 28 ls [.int (bI (anyN (joinB ea eb (nI i) y) np))]) rfl ?_
      refine lv_if_eq (tgt := 43) C0.1 C0.2.1 d_WS_forward_28 (by decide) (fun c_28 => ?_) (fun c_28 => ?_)
      · exact absurd (fwd_3 (bI_0.mp c_28)) (by rw [hyes]; decide)
      · refine lv_aload_n C0.1 C0.2.1 d_WS_forward_31 rfl (lv_at hl 0 rfl) ?_
        refine gf_WS_19 C0 hB.1 0 rfl rfl d_WS_forward_32 ?_
        refine lv_iload_n C0.1 C0.2.1 d_WS_forward_35 rfl (lv_at hl 1 rfl) ?_
        refine lv_iload_n C0.1 C0.2.1 d_WS_forward_36 rfl (lv_at hl 3 rfl) ?_
        refine cR (As := [.int (nI i), .int z]) (rest := []) C0 (c_PI_anyJoins (nI i) z hnp) (q_WS_117 C0.2.2.2.2.1 rfl rfl ⟨Nat.le_of_ble_eq_true rfl, Nat.le_of_ble_eq_true rfl⟩) (ci := 2) (q0 := 2) rfl rfl rfl hB.1 hl.1 rfl rfl (Nat.le_of_ble_eq_true rfl) d_WS_forward_37 ⟨Nat.zero_le _, Nat.zero_le _⟩ ?_
        refine W.eq (g2 := F0 m 40 ls [.int (bI (anyN (joinB ea eb (nI i) z) np))]) rfl ?_
        refine lv_if_ne (tgt := 45) C0.1 C0.2.1 d_WS_forward_40 (by decide) (fun c_40 => ?_) (fun c_40 => ?_)
        · refine lv_aload_n C0.1 C0.2.1 d_WS_forward_45 rfl (lv_at hl 0 rfl) ?_
          refine gf_WS_10 C0 hB.1 0 rfl rfl d_WS_forward_46 ?_
          refine gf_WS_120 C0 hB.1 1 rfl rfl d_WS_forward_49 ?_
          refine lv_iload_n C0.1 C0.2.1 d_WS_forward_52 rfl (lv_at hl 1 rfl) ?_
          refine lv_iload_n C0.1 C0.2.1 d_WS_forward_53 rfl (lv_at hl 2 rfl) ?_
          refine ast_i (w' := (wW a t n kd em br (va_up ii i y) oo np ea eb li rn wa wn sT sP ak ap af tt ac ct rp rt rest L)) C0 hB 8 0 rfl rfl (by omega) (by decide) up_32 rfl d_WS_forward_54 (fun H locs hB => ?_)
          refine lv_aload_n C0.1 C0.2.1 d_WS_forward_55 rfl (lv_at hl 0 rfl) ?_
          refine gf_WS_10 C0 hB.1 0 rfl rfl d_WS_forward_56 ?_
          refine gf_WS_123 C0 hB.1 1 rfl rfl d_WS_forward_59 ?_
          refine lv_iload_n C0.1 C0.2.1 d_WS_forward_62 rfl (lv_at hl 1 rfl) ?_
          refine lv_iload_n C0.1 C0.2.1 d_WS_forward_63 rfl (lv_at hl 3 rfl) ?_
          refine ast_i (w' := (wW a t n kd em br (va_up ii i y) (va_up oo i z) np ea eb li rn wa wn sT sP ak ap af tt ac ct rp rt rest L)) C0 hB 9 0 rfl rfl (by omega) (by decide) up_32 rfl d_WS_forward_64 (fun H locs hB => ?_)
          refine lv_iconst (v := nI 1) C0.1 C0.2.1 d_WS_forward_65 (by decide) ?_
          exact eM_z C0 hr hlk (b := true) () rfl hB rfl (Nat.le_refl _) (Nat.le_refl _) d_WS_forward_66
        · exact absurd (fwd_4 (bI_0.mp c_40)) (by rw [hyes]; decide)
    · exact absurd (fwd_2 c_14) (by rw [hyes]; decide)
theorem told_out {x : Int32} (h0 : ¬ x = 0) (h1 : ¬ x = 1) (h2 : ¬ x = 2) (h3 : ¬ x = 3) (h4 : ¬ x = 4) (h5 : ¬ x = 5) (h6 : ¬ x = 6) : x.toInt < 0 ∨ 6 < x.toInt := by
  rcases Classical.em (x < 0) with h | h
  · have := Int32.lt_iff_toInt_lt.mp h
    rw [Int32.toInt_zero] at this
    exact Or.inl this
  · obtain ⟨j, hj, rfl⟩ := nI_of h
    rw [nI_toInt hj]
    refine Or.inr ?_
    rcases Nat.lt_or_ge 6 j with q | q
    · omega
    · exfalso
      rcases (show j = 0 ∨ j = 1 ∨ j = 2 ∨ j = 3 ∨ j = 4 ∨ j = 5 ∨ j = 6 by omega) with e | e | e | e | e | e | e <;> subst e
      · exact h0 rfl
      · exact h1 rfl
      · exact h2 rfl
      · exact h3 rfl
      · exact h4 rfl
      · exact h5 rfl
      · exact h6 rfl
set_option maxHeartbeats 4000000 in
set_option maxRecDepth 100000 in
theorem c_WS_told (x : Int32) (hn : n ≤ 48) (hnp : np ≤ 96) (hea : ∀ j, j < np → ea j < n) (heb : ∀ j, j < np → eb j < n) : Rd l y_WS_told w_WS_told ({ frames := 2, cells := 0, slots := 0, locals := 44 }) g classes (tyL t) [.ref (a 0), .int x] (wW a t n kd em br ii oo np ea eb li rn wa wn sT sP ak ap af tt ac ct rp rt rest L) (some (.int (toldF n np wn (cntN br 48) (cntN rn 96) (cntN em 48) (cntN (fun v => !anyN (endB ea eb v) np) n) x))) := by
  refine Rd.of (cc := b_WS_told) (maxL := 2) (ret := (some .int)) (own := R_WS) (by decide) rfl rfl (Nat.le_of_ble_eq_true rfl) ?_
  intro p e s m args below meth c C0 hr hlk hP ls hl
  have hl : lv_has ls 2 [(0, .ref (a 0)), (1, .int x)] := hl
  refine lv_iload_n C0.1 C0.2.1 d_WS_told_0 rfl (lv_at hl 1 rfl) ?_
  by_cases e0 : x = 0
  · subst e0
    refine lv_tableIn (off := 43) (tgt := 44) C0.1 C0.2.1 d_WS_told_1 (by decide) (by decide) (by decide) (by decide) ?_
    refine lv_aload_n C0.1 C0.2.1 d_WS_told_44 rfl (lv_at hl 0 rfl) ?_
    refine gf_WS_10 C0 hP 0 rfl rfl d_WS_told_45 ?_
    refine gf_WS_126 C0 hP 1 rfl rfl d_WS_told_48 ?_
    exact eR_i C0 hr hlk (by rfl) d_WS_told_51
  by_cases e1 : x = 1
  · subst e1
    refine lv_tableIn (off := 51) (tgt := 52) C0.1 C0.2.1 d_WS_told_1 (by decide) (by decide) (by decide) (by decide) ?_
    refine lv_aload_n C0.1 C0.2.1 d_WS_told_52 rfl (lv_at hl 0 rfl) ?_
    refine gf_WS_19 C0 hP 0 rfl rfl d_WS_told_53 ?_
    refine gf_WS_129 C0 hP 2 rfl rfl d_WS_told_56 ?_
    exact eR_i C0 hr hlk (by rfl) d_WS_told_59
  by_cases e2 : x = 2
  · subst e2
    refine lv_tableIn (off := 59) (tgt := 60) C0.1 C0.2.1 d_WS_told_1 (by decide) (by decide) (by decide) (by decide) ?_
    refine lv_aload_n C0.1 C0.2.1 d_WS_told_60 rfl (lv_at hl 0 rfl) ?_
    refine gf_WS_38 C0 hP 0 rfl rfl d_WS_told_61 ?_
    exact eR_i C0 hr hlk (by rfl) d_WS_told_64
  by_cases e3 : x = 3
  · subst e3
    refine lv_tableIn (off := 64) (tgt := 65) C0.1 C0.2.1 d_WS_told_1 (by decide) (by decide) (by decide) (by decide) ?_
    refine lv_aload_n C0.1 C0.2.1 d_WS_told_65 rfl (lv_at hl 0 rfl) ?_
    refine gf_WS_10 C0 hP 0 rfl rfl d_WS_told_66 ?_
    refine gf_WS_64 C0 hP 1 rfl rfl d_WS_told_69 ?_
    refine cRS (As := [.ref (a 7)]) (rest := []) C0 (c_WS_countMarks_br) (q_WS_130 C0.2.2.2.2.1 rfl rfl ⟨Nat.le_of_ble_eq_true rfl, Nat.le_of_ble_eq_true rfl⟩) hP hl.1 rfl rfl (Nat.le_of_ble_eq_true rfl) d_WS_told_72 ⟨Nat.zero_le _, Nat.zero_le _⟩ ?_
    refine W.eq (g2 := F0 m 75 ls [.int (nI (cntN br 48))]) rfl ?_
    exact eR_i C0 hr hlk (by rfl) d_WS_told_75
  by_cases e4 : x = 4
  · subst e4
    refine lv_tableIn (off := 75) (tgt := 76) C0.1 C0.2.1 d_WS_told_1 (by decide) (by decide) (by decide) (by decide) ?_
    refine lv_aload_n C0.1 C0.2.1 d_WS_told_76 rfl (lv_at hl 0 rfl) ?_
    refine gf_WS_19 C0 hP 0 rfl rfl d_WS_told_77 ?_
    refine gf_WS_56 C0 hP 2 rfl rfl d_WS_told_80 ?_
    refine cRS (As := [.ref (a 13)]) (rest := []) C0 (c_WS_countMarks_rn) (q_WS_130 C0.2.2.2.2.1 rfl rfl ⟨Nat.le_of_ble_eq_true rfl, Nat.le_of_ble_eq_true rfl⟩) hP hl.1 rfl rfl (Nat.le_of_ble_eq_true rfl) d_WS_told_83 ⟨Nat.zero_le _, Nat.zero_le _⟩ ?_
    refine W.eq (g2 := F0 m 86 ls [.int (nI (cntN rn 96))]) rfl ?_
    exact eR_i C0 hr hlk (by rfl) d_WS_told_86
  by_cases e5 : x = 5
  · subst e5
    refine lv_tableIn (off := 86) (tgt := 87) C0.1 C0.2.1 d_WS_told_1 (by decide) (by decide) (by decide) (by decide) ?_
    refine lv_aload_n C0.1 C0.2.1 d_WS_told_87 rfl (lv_at hl 0 rfl) ?_
    refine gf_WS_10 C0 hP 0 rfl rfl d_WS_told_88 ?_
    refine gf_WS_134 C0 hP 1 rfl rfl d_WS_told_91 ?_
    refine cRS (As := [.ref (a 6)]) (rest := []) C0 (c_WS_countMarks_em) (q_WS_130 C0.2.2.2.2.1 rfl rfl ⟨Nat.le_of_ble_eq_true rfl, Nat.le_of_ble_eq_true rfl⟩) hP hl.1 rfl rfl (Nat.le_of_ble_eq_true rfl) d_WS_told_94 ⟨Nat.zero_le _, Nat.zero_le _⟩ ?_
    refine W.eq (g2 := F0 m 97 ls [.int (nI (cntN em 48))]) rfl ?_
    exact eR_i C0 hr hlk (by rfl) d_WS_told_97
  by_cases e6 : x = 6
  · subst e6
    refine lv_tableIn (off := 97) (tgt := 98) C0.1 C0.2.1 d_WS_told_1 (by decide) (by decide) (by decide) (by decide) ?_
    refine lv_aload_n C0.1 C0.2.1 d_WS_told_98 rfl (lv_at hl 0 rfl) ?_
    refine cR (As := []) (rest := []) C0 (c_WS_countLooseThings hn hnp hea heb) (q_WS_137 C0.2.2.2.2.1 rfl rfl ⟨Nat.le_of_ble_eq_true rfl, Nat.le_of_ble_eq_true rfl⟩) (ci := 0) (q0 := 0) rfl rfl rfl hP hl.1 rfl rfl (Nat.le_of_ble_eq_true rfl) d_WS_told_99 ⟨Nat.zero_le _, Nat.zero_le _⟩ ?_
    refine W.eq (g2 := F0 m 102 ls [.int (nI (cntN (fun v => !anyN (endB ea eb v) np) n))]) rfl ?_
    exact eR_i C0 hr hlk (by rfl) d_WS_told_102
  refine lv_tableOut (tgt := 103) C0.1 C0.2.1 d_WS_told_1 (told_out e0 e1 e2 e3 e4 e5 e6) (by decide) ?_
  refine lv_iconst (v := -1) C0.1 C0.2.1 d_WS_told_103 (by decide) ?_
  exact eR_i C0 hr hlk (by unfold toldF; rw [if_neg e0, if_neg e1, if_neg e2, if_neg e3, if_neg e4, if_neg e5, if_neg e6]) d_WS_told_104
end CALLS2
end
section
section CALLS3
variable {l : Launch} {g : va_G} {t : Nat → ClassId} {a : Nat → Nat} {n : Nat} {kd : Nat → Nat} {em : Nat → Bool} {br : Nat → Bool} {ii : Nat → Int32} {oo : Nat → Int32} {np : Nat} {ea : Nat → Nat} {eb : Nat → Nat} {li : Nat → Nat} {rn : Nat → Bool} {wa : Nat → Option Nat} {wn : Nat} {sT : Nat → Bool} {sP : Nat → Bool} {ak : Nat} {ap : Nat → Nat} {af : Nat → Nat} {tt : Nat → Nat} {ac : Nat → Nat} {ct : Nat → Nat} {rp : Nat → Nat} {rt : Nat → Nat} {rest : va_W} {L : List Wy}
set_option maxHeartbeats 4000000 in
set_option maxRecDepth 100000 in
theorem c_WS_pipeOf_no (x : Int32) (hwn : wn ≤ 64) (hno : hasB wn x = false) (k : Int32) : Rd l y_WS_pipeOf w_WS_pipeOf ({ frames := 1, cells := 0, slots := 0, locals := 21 }) g classes (tyL t) [.ref (a 0), .int x, .int k] (wW a t n kd em br ii oo np ea eb li rn wa wn sT sP ak ap af tt ac ct rp rt rest L) (some (.int (-2))) := by
  refine Rd.of (cc := b_WS_pipeOf) (maxL := 4) (ret := (some .int)) (own := R_WS) (by decide) rfl rfl (Nat.le_of_ble_eq_true rfl) ?_
  intro p e s m args below meth c C0 hr hlk hP ls hl
  have hl : lv_has ls 4 [(0, .ref (a 0)), (1, .int x), (2, .int k)] := hl
  refine lv_aload_n C0.1 C0.2.1 d_WS_pipeOf_0 rfl (lv_at hl 0 rfl) ?_
  refine lv_iload_n C0.1 C0.2.1 d_WS_pipeOf_1 rfl (lv_at hl 1 rfl) ?_
  refine cR (As := [.int x]) (rest := []) C0 (c_WS_wayNumbered_no x hwn hno) (q_WS_82 C0.2.2.2.2.1 rfl rfl ⟨Nat.le_of_ble_eq_true rfl, Nat.le_of_ble_eq_true rfl⟩) (ci := 0) (q0 := 0) rfl rfl rfl hP hl.1 rfl rfl (Nat.le_of_ble_eq_true rfl) d_WS_pipeOf_2 ⟨Nat.zero_le _, Nat.zero_le _⟩ ?_
  refine W.eq (g2 := F0 m 5 ls [.null]) rfl ?_
  refine lv_astore_nN (lv' := [(3, .null), (0, .ref (a 0)), (1, .int x), (2, .int k)]) C0.1 C0.2.1 d_WS_pipeOf_5 rfl hl (by decide) rfl (fun ls hl => ?_)
  refine lv_aload_nN C0.1 C0.2.1 d_WS_pipeOf_6 rfl (lv_at hl 0 rfl) ?_
  refine lv_ifnonnullN C0.1 C0.2.1 d_WS_pipeOf_7 ?_
  refine lv_bipush (v := -2) C0.1 C0.2.1 d_WS_pipeOf_10 (by decide) ?_
  refine lv_goto (tgt := 20) C0.1 C0.2.1 d_WS_pipeOf_12 (by decide) ?_
  exact eR_i C0 hr hlk (rfl) d_WS_pipeOf_20
set_option maxHeartbeats 4000000 in
set_option maxRecDepth 100000 in
theorem c_WS_pipeOf (i pa ta oa fr to0 lit : Nat) (pl tl : List Nat) (hwn : wn ≤ 64) (hi : i < wn) (hoa : wa i = some oa) (hx : L[i]? = some (pa, ta, oa, fr, to0, lit, pl, tl)) (hl1 : pl.length < 1000) (hl2 : tl.length < 1000) (k : Int32) : Rd l y_WS_pipeOf w_WS_pipeOf ({ frames := 1, cells := 0, slots := 0, locals := 21 }) g classes (tyL t) [.ref (a 0), .int (nI i), .int k] (wW a t n kd em br ii oo np ea eb li rn wa wn sT sP ak ap af tt ac ct rp rt rest L) (some (.int (pAt pl.length (fun j => nI (pl.getD j 0)) k))) := by
  refine Rd.of (cc := b_WS_pipeOf) (maxL := 4) (ret := (some .int)) (own := R_WS) (by decide) rfl rfl (Nat.le_of_ble_eq_true rfl) ?_
  intro p e s m args below meth c C0 hr hlk hP ls hl
  have hl : lv_has ls 4 [(0, .ref (a 0)), (1, .int (nI i)), (2, .int k)] := hl
  refine lv_aload_n C0.1 C0.2.1 d_WS_pipeOf_0 rfl (lv_at hl 0 rfl) ?_
  refine lv_iload_n C0.1 C0.2.1 d_WS_pipeOf_1 rfl (lv_at hl 1 rfl) ?_
  refine cR (As := [.int (nI i)]) (rest := []) C0 (c_WS_wayNumbered i oa hwn hi hoa) (q_WS_82 C0.2.2.2.2.1 rfl rfl ⟨Nat.le_of_ble_eq_true rfl, Nat.le_of_ble_eq_true rfl⟩) (ci := 0) (q0 := 0) rfl rfl rfl hP hl.1 rfl rfl (Nat.le_of_ble_eq_true rfl) d_WS_pipeOf_2 ⟨Nat.zero_le _, Nat.zero_le _⟩ ?_
  refine W.eq (g2 := F0 m 5 ls [.ref oa]) rfl ?_
  refine lv_astore_n (lv' := [(3, .ref oa), (0, .ref (a 0)), (1, .int (nI i)), (2, .int k)]) C0.1 C0.2.1 d_WS_pipeOf_5 rfl hl (by decide) rfl (fun ls hl => ?_)
  refine lv_aload_n C0.1 C0.2.1 d_WS_pipeOf_6 rfl (lv_at hl 0 rfl) ?_
  refine lv_ifnonnull (tgt := 15) C0.1 C0.2.1 d_WS_pipeOf_7 (by decide) ?_
  refine lv_aload_n C0.1 C0.2.1 d_WS_pipeOf_15 rfl (lv_at hl 0 rfl) ?_
  refine lv_iload_n C0.1 C0.2.1 d_WS_pipeOf_16 rfl (lv_at hl 3 rfl) ?_
  refine cR (As := [.int k]) (rest := []) C0 (c_FW_pipeAt (23 + (rest.length + (3 * i + 2))) (23 + (rest.length + (3 * i + 0))) oa pa ta pl.length (fun j => nI (pl.getD j 0)) (nI fr) (nI to0) (lN lit) k (wW_w2 hx) (wW_w0 hx) (by omega)) (q_WS_86 C0.2.2.2.2.1 rfl rfl ⟨Nat.le_of_ble_eq_true rfl, Nat.le_of_ble_eq_true rfl⟩) (ci := 4) (q0 := 23 + (rest.length + (3 * i + 2))) rfl rfl (wW_w2 hx) hP hl.1 rfl rfl (Nat.le_of_ble_eq_true rfl) d_WS_pipeOf_17 ⟨Nat.zero_le _, Nat.zero_le _⟩ ?_
  refine W.eq (g2 := F0 m 20 ls [.int (pAt pl.length (fun j => nI (pl.getD j 0)) k)]) rfl ?_
  exact eR_i C0 hr hlk (rfl) d_WS_pipeOf_20
set_option maxHeartbeats 4000000 in
set_option maxRecDepth 100000 in
theorem c_WS_rest_no (x : Int32) (hwn : wn ≤ 64) (hno : hasB wn x = false) : Rd l y_WS_rest w_WS_rest ({ frames := 1, cells := 0, slots := 0, locals := 21 }) g classes (tyL t) [.ref (a 0), .int x] (wW a t n kd em br ii oo np ea eb li rn wa wn sT sP ak ap af tt ac ct rp rt rest L) (some (.long (-2))) := by
  refine Rd.of (cc := b_WS_rest) (maxL := 3) (ret := (some .long)) (own := R_WS) (by decide) rfl rfl (Nat.le_of_ble_eq_true rfl) ?_
  intro p e s m args below meth c C0 hr hlk hP ls hl
  have hl : lv_has ls 3 [(0, .ref (a 0)), (1, .int x)] := hl
  refine lv_aload_n C0.1 C0.2.1 d_WS_rest_0 rfl (lv_at hl 0 rfl) ?_
  refine lv_iload_n C0.1 C0.2.1 d_WS_rest_1 rfl (lv_at hl 1 rfl) ?_
  refine cR (As := [.int x]) (rest := []) C0 (c_WS_wayNumbered_no x hwn hno) (q_WS_82 C0.2.2.2.2.1 rfl rfl ⟨Nat.le_of_ble_eq_true rfl, Nat.le_of_ble_eq_true rfl⟩) (ci := 0) (q0 := 0) rfl rfl rfl hP hl.1 rfl rfl (Nat.le_of_ble_eq_true rfl) d_WS_rest_2 ⟨Nat.zero_le _, Nat.zero_le _⟩ ?_
  refine W.eq (g2 := F0 m 5 ls [.null]) rfl ?_
  refine lv_astore_nN (lv' := [(2, .null), (0, .ref (a 0)), (1, .int x)]) C0.1 C0.2.1 d_WS_rest_5 rfl hl (by decide) rfl (fun ls hl => ?_)
  refine lv_aload_nN C0.1 C0.2.1 d_WS_rest_6 rfl (lv_at hl 0 rfl) ?_
  refine lv_ifnonnullN C0.1 C0.2.1 d_WS_rest_7 ?_
  refine lv_ldc2 C0.1 C0.2.1 C0.2.2.2.1 (C0.2.2.2.2.1 _ k_WS_97) d_WS_rest_10 ?_
  refine lv_goto (tgt := 20) C0.1 C0.2.1 d_WS_rest_13 (by decide) ?_
  exact eR_l C0 hr hlk rfl d_WS_rest_20
set_option maxHeartbeats 4000000 in
set_option maxRecDepth 100000 in
theorem c_WS_rest (i pa ta oa fr to0 lit : Nat) (pl tl : List Nat) (hwn : wn ≤ 64) (hi : i < wn) (hoa : wa i = some oa) (hx : L[i]? = some (pa, ta, oa, fr, to0, lit, pl, tl)) (hl1 : pl.length < 1000) (hl2 : tl.length < 1000) : Rd l y_WS_rest w_WS_rest ({ frames := 1, cells := 0, slots := 0, locals := 21 }) g classes (tyL t) [.ref (a 0), .int (nI i)] (wW a t n kd em br ii oo np ea eb li rn wa wn sT sP ak ap af tt ac ct rp rt rest L) (some (.long (lN lit))) := by
  refine Rd.of (cc := b_WS_rest) (maxL := 3) (ret := (some .long)) (own := R_WS) (by decide) rfl rfl (Nat.le_of_ble_eq_true rfl) ?_
  intro p e s m args below meth c C0 hr hlk hP ls hl
  have hl : lv_has ls 3 [(0, .ref (a 0)), (1, .int (nI i))] := hl
  refine lv_aload_n C0.1 C0.2.1 d_WS_rest_0 rfl (lv_at hl 0 rfl) ?_
  refine lv_iload_n C0.1 C0.2.1 d_WS_rest_1 rfl (lv_at hl 1 rfl) ?_
  refine cR (As := [.int (nI i)]) (rest := []) C0 (c_WS_wayNumbered i oa hwn hi hoa) (q_WS_82 C0.2.2.2.2.1 rfl rfl ⟨Nat.le_of_ble_eq_true rfl, Nat.le_of_ble_eq_true rfl⟩) (ci := 0) (q0 := 0) rfl rfl rfl hP hl.1 rfl rfl (Nat.le_of_ble_eq_true rfl) d_WS_rest_2 ⟨Nat.zero_le _, Nat.zero_le _⟩ ?_
  refine W.eq (g2 := F0 m 5 ls [.ref oa]) rfl ?_
  refine lv_astore_n (lv' := [(2, .ref oa), (0, .ref (a 0)), (1, .int (nI i))]) C0.1 C0.2.1 d_WS_rest_5 rfl hl (by decide) rfl (fun ls hl => ?_)
  refine lv_aload_n C0.1 C0.2.1 d_WS_rest_6 rfl (lv_at hl 0 rfl) ?_
  refine lv_ifnonnull (tgt := 16) C0.1 C0.2.1 d_WS_rest_7 (by decide) ?_
  refine lv_aload_n C0.1 C0.2.1 d_WS_rest_16 rfl (lv_at hl 0 rfl) ?_
  refine gf_WS_99 C0 hP (23 + (rest.length + (3 * i + 2))) (wW_w2 hx) rfl d_WS_rest_17 ?_
  exact eR_l C0 hr hlk rfl d_WS_rest_20
set_option maxHeartbeats 4000000 in
set_option maxRecDepth 100000 in
theorem c_WS_valveOf_no (x : Int32) (hwn : wn ≤ 64) (hno : hasB wn x = false) (k : Int32) : Rd l y_WS_valveOf w_WS_valveOf ({ frames := 2, cells := 0, slots := 0, locals := 43 }) g classes (tyL t) [.ref (a 0), .int x, .int k] (wW a t n kd em br ii oo np ea eb li rn wa wn sT sP ak ap af tt ac ct rp rt rest L) (some (.int (-2))) := by
  refine Rd.of (cc := b_WS_valveOf) (maxL := 9) (ret := (some .int)) (own := R_WS) (by decide) rfl rfl (Nat.le_of_ble_eq_true rfl) ?_
  intro p e s m args below meth c C0 hr hlk hP ls hl
  have hl : lv_has ls 9 [(0, .ref (a 0)), (1, .int x), (2, .int k)] := hl
  refine lv_aload_n C0.1 C0.2.1 d_WS_valveOf_0 rfl (lv_at hl 0 rfl) ?_
  refine lv_iload_n C0.1 C0.2.1 d_WS_valveOf_1 rfl (lv_at hl 1 rfl) ?_
  refine cR (As := [.int x]) (rest := []) C0 (c_WS_wayNumbered_no x hwn hno) (q_WS_82 C0.2.2.2.2.1 rfl rfl ⟨Nat.le_of_ble_eq_true rfl, Nat.le_of_ble_eq_true rfl⟩) (ci := 0) (q0 := 0) rfl rfl rfl hP hl.1 rfl rfl (Nat.le_of_ble_eq_true rfl) d_WS_valveOf_2 ⟨Nat.zero_le _, Nat.zero_le _⟩ ?_
  refine W.eq (g2 := F0 m 5 ls [.null]) rfl ?_
  refine lv_astore_nN (lv' := [(3, .null), (0, .ref (a 0)), (1, .int x), (2, .int k)]) C0.1 C0.2.1 d_WS_valveOf_5 rfl hl (by decide) rfl (fun ls hl => ?_)
  refine lv_aload_nN C0.1 C0.2.1 d_WS_valveOf_6 rfl (lv_at hl 0 rfl) ?_
  refine lv_ifnonnullN C0.1 C0.2.1 d_WS_valveOf_7 ?_
  refine lv_bipush (v := -2) C0.1 C0.2.1 d_WS_valveOf_10 (by decide) ?_
  exact eR_i C0 hr hlk (rfl) d_WS_valveOf_12
set_option maxHeartbeats 4000000 in
set_option maxRecDepth 100000 in
theorem c_WS_valveOf (i pa ta oa fr to0 lit : Nat) (pl tl : List Nat) (hwn : wn ≤ 64) (hi : i < wn) (hoa : wa i = some oa) (hx : L[i]? = some (pa, ta, oa, fr, to0, lit, pl, tl)) (hl1 : pl.length < 1000) (hl2 : tl.length < 1000) (k : Int32) (htl : ∀ v ∈ tl, v < n) (hn : n ≤ 48) (hk : ∀ j, kd j < 3) : Rd l y_WS_valveOf w_WS_valveOf ({ frames := 2, cells := 0, slots := 0, locals := 43 }) g classes (tyL t) [.ref (a 0), .int (nI i), .int k] (wW a t n kd em br ii oo np ea eb li rn wa wn sT sP ak ap af tt ac ct rp rt rest L) (some (.int (vOf kd tl k))) := by
  refine Rd.of (cc := b_WS_valveOf) (maxL := 9) (ret := (some .int)) (own := R_WS) (by decide) rfl rfl (Nat.le_of_ble_eq_true rfl) ?_
  intro p e s m args below meth c C0 hr hlk hP ls hl
  have hl : lv_has ls 9 [(0, .ref (a 0)), (1, .int (nI i)), (2, .int k)] := hl
  refine lv_aload_n C0.1 C0.2.1 d_WS_valveOf_0 rfl (lv_at hl 0 rfl) ?_
  refine lv_iload_n C0.1 C0.2.1 d_WS_valveOf_1 rfl (lv_at hl 1 rfl) ?_
  refine cR (As := [.int (nI i)]) (rest := []) C0 (c_WS_wayNumbered i oa hwn hi hoa) (q_WS_82 C0.2.2.2.2.1 rfl rfl ⟨Nat.le_of_ble_eq_true rfl, Nat.le_of_ble_eq_true rfl⟩) (ci := 0) (q0 := 0) rfl rfl rfl hP hl.1 rfl rfl (Nat.le_of_ble_eq_true rfl) d_WS_valveOf_2 ⟨Nat.zero_le _, Nat.zero_le _⟩ ?_
  refine W.eq (g2 := F0 m 5 ls [.ref oa]) rfl ?_
  refine lv_astore_n (lv' := [(3, .ref oa), (0, .ref (a 0)), (1, .int (nI i)), (2, .int k)]) C0.1 C0.2.1 d_WS_valveOf_5 rfl hl (by decide) rfl (fun ls hl => ?_)
  refine lv_aload_n C0.1 C0.2.1 d_WS_valveOf_6 rfl (lv_at hl 0 rfl) ?_
  refine lv_ifnonnull (tgt := 13) C0.1 C0.2.1 d_WS_valveOf_7 (by decide) ?_
  refine lv_iconst (v := nI 0) C0.1 C0.2.1 d_WS_valveOf_13 (by decide) ?_
  refine lv_istore (lv' := [(4, .int (nI 0)), (3, .ref oa), (0, .ref (a 0)), (1, .int (nI i)), (2, .int k)]) C0.1 C0.2.1 d_WS_valveOf_14 hl (by decide) rfl (fun ls hl => ?_)
  refine lv_aload_n C0.1 C0.2.1 d_WS_valveOf_16 rfl (lv_at hl 1 rfl) ?_
  refine gf_WS_90 C0 hP (23 + (rest.length + (3 * i + 2))) (wW_w2 hx) rfl d_WS_valveOf_17 ?_
  refine lv_astore (lv' := [(5, .ref ta), (4, .int (nI 0)), (3, .ref oa), (0, .ref (a 0)), (1, .int (nI i)), (2, .int k)]) C0.1 C0.2.1 d_WS_valveOf_20 hl (by decide) rfl (fun ls hl => ?_)
  refine lv_aload C0.1 C0.2.1 d_WS_valveOf_22 (lv_at hl 0 rfl) ?_
  refine alen (n := tl.length) C0 hP (23 + (rest.length + (3 * i + 1))) 0 (wW_w1 hx) rfl rfl d_WS_valveOf_24 ?_
  refine lv_istore (lv' := [(6, .int (nI tl.length)), (5, .ref ta), (4, .int (nI 0)), (3, .ref oa), (0, .ref (a 0)), (1, .int (nI i)), (2, .int k)]) C0.1 C0.2.1 d_WS_valveOf_25 hl (by decide) rfl (fun ls hl => ?_)
  refine lv_iconst (v := nI 0) C0.1 C0.2.1 d_WS_valveOf_27 (by decide) ?_
  refine lv_istore (lv' := [(7, .int (nI 0)), (6, .int (nI tl.length)), (5, .ref ta), (4, .int (nI 0)), (3, .ref oa), (0, .ref (a 0)), (1, .int (nI i)), (2, .int k)]) C0.1 C0.2.1 d_WS_valveOf_28 hl (by decide) rfl (fun ls hl => ?_)
  refine wlR (σ := Nat) (head := 30) (fun z_ => tl.length - z_) (fun z_ => z_ ≤ tl.length ∧ ∀ z, z < ((tl.take z_).filter (fun v => decide (kd v = 2))).length → ¬ nI z = k) (fun z_ => [(0, .ref (a 0)), (2, .int k), (4, .int (nI ((tl.take z_).filter (fun v => decide (kd v = 2))).length)), (5, .ref ta), (6, .int (nI tl.length)), (7, .int (nI z_))]) ?_ 0 (show 0 ≤ tl.length ∧ ∀ z, z < ((tl.take 0).filter (fun v => decide (kd v = 2))).length → ¬ nI z = k from ⟨Nat.zero_le _, fun z h => absurd h (Nat.not_lt_zero _)⟩) (lv_sub hl [5, 7, 3, 2, 1, 0] rfl)
  rintro j hi ih ls hl
  have hi : j ≤ tl.length ∧ ∀ z, z < ((tl.take j).filter (fun v => decide (kd v = 2))).length → ¬ nI z = k := hi
  obtain ⟨hi1, hi2⟩ := hi
  have hl : lv_has ls 9 [(0, .ref (a 0)), (2, .int k), (4, .int (nI ((tl.take j).filter (fun v => decide (kd v = 2))).length)), (5, .ref ta), (6, .int (nI tl.length)), (7, .int (nI j))] := hl
  refine lv_iload C0.1 C0.2.1 d_WS_valveOf_30 (lv_at hl 5 rfl) ?_
  refine lv_iload C0.1 C0.2.1 d_WS_valveOf_32 (lv_at hl 4 rfl) ?_
  refine lv_icmp_ge (tgt := 75) C0.1 C0.2.1 d_WS_valveOf_34 (by decide) (fun c_34 => ?_) (fun c_34 => ?_)
  · have hj : j = tl.length := by have := (nI_leI (by omega) (by omega)).mp c_34; omega
    refine lv_iconst (v := -1) C0.1 C0.2.1 d_WS_valveOf_75 (by decide) ?_
    exact eR_i C0 hr hlk (by rw [vOf_no hl2 (by rw [hj, List.take_length] at hi2; exact hi2)]) d_WS_valveOf_76
  · have hj : j < tl.length := (nI_nle' (by omega) (by omega)).mp c_34
    have hv : tl.getD j 0 < n := htl _ (gD_mem hj)
    refine lv_aload C0.1 C0.2.1 d_WS_valveOf_37 (lv_at hl 3 rfl) ?_
    refine lv_iload C0.1 C0.2.1 d_WS_valveOf_39 (lv_at hl 5 rfl) ?_
    refine ald_i (N := tl.length) C0 hP (23 + (rest.length + (3 * i + 1))) 0 (wW_w1 hx) rfl (by omega) (by omega) d_WS_valveOf_41 ?_
    refine lv_istore (lv' := [(8, .int (nI (tl.getD j 0))), (0, .ref (a 0)), (2, .int k), (4, .int (nI ((tl.take j).filter (fun v => decide (kd v = 2))).length)), (5, .ref ta), (6, .int (nI tl.length)), (7, .int (nI j))]) C0.1 C0.2.1 d_WS_valveOf_42 hl (by decide) rfl (fun ls hl => ?_)
    refine lv_aload_n C0.1 C0.2.1 d_WS_valveOf_44 rfl (lv_at hl 1 rfl) ?_
    refine gf_WS_10 C0 hP 0 rfl rfl d_WS_valveOf_45 ?_
    refine lv_iload C0.1 C0.2.1 d_WS_valveOf_48 (lv_at hl 0 rfl) ?_
    refine lv_iconst (v := nI 2) C0.1 C0.2.1 d_WS_valveOf_50 (by decide) ?_
    refine cR (As := [.int (nI (tl.getD j 0)), .int (nI 2)]) (rest := []) C0 (c_TH_isKind (nI (tl.getD j 0)) 2 (by decide) hn hk) (q_WS_93 C0.2.2.2.2.1 rfl rfl ⟨Nat.le_of_ble_eq_true rfl, Nat.le_of_ble_eq_true rfl⟩) (ci := 1) (q0 := 1) rfl rfl rfl hP hl.1 rfl rfl (Nat.le_of_ble_eq_true rfl) d_WS_valveOf_51 ⟨Nat.zero_le _, Nat.zero_le _⟩ ?_
    refine W.eq (g2 := F0 m 54 ls [.int (bI (isK n kd (nI (tl.getD j 0)) 2))]) rfl ?_
    refine lv_if_eq (tgt := 69) C0.1 C0.2.1 d_WS_valveOf_54 (by decide) (fun c_54 => ?_) (fun c_54 => ?_)
    · have hkv : ¬ kd (tl.getD j 0) = 2 := of_decide_eq_false (by rw [← isK_j hv (by have := hk (tl.getD j 0); omega) (by omega)]; exact bI_0.mp c_54)
      have ec : ((tl.take (j + 1)).filter (fun v => decide (kd v = 2))).length = ((tl.take j).filter (fun v => decide (kd v = 2))).length := by rw [flt_cnt hj, if_neg hkv]; rfl
      rw [← ec] at hl
      refine lv_iinc (v := nI (j + 1)) (lv' := [(7, .int (nI (j + 1))), (8, .int (nI (tl.getD j 0))), (0, .ref (a 0)), (2, .int k), (4, .int (nI ((tl.take (j + 1)).filter (fun v => decide (kd v = 2))).length)), (5, .ref ta), (6, .int (nI tl.length))]) C0.1 C0.2.1 d_WS_valveOf_69 hl (k := 6) rfl (inc1 _) (by decide) rfl (fun ls hl => ?_)
      refine lv_goto (tgt := 30) C0.1 C0.2.1 d_WS_valveOf_72 (by decide) ?_
      exact ih (j + 1) (show (j + 1) ≤ tl.length ∧ ∀ z, z < ((tl.take (j + 1)).filter (fun v => decide (kd v = 2))).length → ¬ nI z = k from ⟨by omega, fun z hz => hi2 z (by omega)⟩) (show tl.length - (j + 1) < tl.length - j from by omega) ls (lv_sub hl [2, 3, 4, 5, 6, 0] rfl)
    · have hkv : kd (tl.getD j 0) = 2 := of_decide_eq_true (by rw [← isK_j hv (by have := hk (tl.getD j 0); omega) (by omega)]; exact bI_n0.mp c_54)
      have ec : ((tl.take (j + 1)).filter (fun v => decide (kd v = 2))).length = ((tl.take j).filter (fun v => decide (kd v = 2))).length + 1 := by rw [flt_cnt hj, if_pos hkv]
      refine lv_iload C0.1 C0.2.1 d_WS_valveOf_57 (lv_at hl 3 rfl) ?_
      refine lv_iload_n C0.1 C0.2.1 d_WS_valveOf_59 rfl (lv_at hl 2 rfl) ?_
      refine lv_icmp_ne (tgt := 66) C0.1 C0.2.1 d_WS_valveOf_60 (by decide) (fun c_60 => ?_) (fun c_60 => ?_)
      · refine lv_iinc (v := nI ((tl.take (j + 1)).filter (fun v => decide (kd v = 2))).length) (lv' := [(4, .int (nI ((tl.take (j + 1)).filter (fun v => decide (kd v = 2))).length)), (8, .int (nI (tl.getD j 0))), (0, .ref (a 0)), (2, .int k), (5, .ref ta), (6, .int (nI tl.length)), (7, .int (nI j))]) C0.1 C0.2.1 d_WS_valveOf_66 hl (k := 3) rfl (by rw [ec]; exact inc1 _) (by decide) rfl (fun ls hl => ?_)
        refine lv_iinc (v := nI (j + 1)) (lv' := [(7, .int (nI (j + 1))), (4, .int (nI ((tl.take (j + 1)).filter (fun v => decide (kd v = 2))).length)), (8, .int (nI (tl.getD j 0))), (0, .ref (a 0)), (2, .int k), (5, .ref ta), (6, .int (nI tl.length))]) C0.1 C0.2.1 d_WS_valveOf_69 hl (k := 6) rfl (inc1 _) (by decide) rfl (fun ls hl => ?_)
        refine lv_goto (tgt := 30) C0.1 C0.2.1 d_WS_valveOf_72 (by decide) ?_
        exact ih (j + 1) (show (j + 1) ≤ tl.length ∧ ∀ z, z < ((tl.take (j + 1)).filter (fun v => decide (kd v = 2))).length → ¬ nI z = k from ⟨by omega, fun z hz => by rcases Nat.lt_or_ge z (((tl.take j).filter (fun v => decide (kd v = 2))).length) with q | q; exact hi2 z q; rw [show z = ((tl.take j).filter (fun v => decide (kd v = 2))).length by omega]; exact c_60⟩) (show tl.length - (j + 1) < tl.length - j from by omega) ls (lv_sub hl [3, 4, 1, 5, 6, 0] rfl)
      · refine lv_iload C0.1 C0.2.1 d_WS_valveOf_63 (lv_at hl 0 rfl) ?_
        exact eR_i C0 hr hlk (by rw [vOf_at hl2 hj hkv c_60]) d_WS_valveOf_65
set_option maxHeartbeats 4000000 in
set_option maxRecDepth 100000 in
theorem c_WS_blow_no (x : Int32) (hwn : wn ≤ 64) (hno : hasB wn x = false) (k : Int32) : Rd l y_WS_blow w_WS_blow ({ frames := 2, cells := 0, slots := 0, locals := 43 }) g classes (tyL t) [.ref (a 0), .int x, .int k] (wW a t n kd em br ii oo np ea eb li rn wa wn sT sP ak ap af tt ac ct rp rt rest L) (some (.int (-2))) := by
  refine Rd.of (cc := b_WS_blow) (maxL := 6) (ret := (some .int)) (own := R_WS) (by decide) rfl rfl (Nat.le_of_ble_eq_true rfl) ?_
  intro p e s m args below meth c C0 hr hlk hP ls hl
  have hl : lv_has ls 6 [(0, .ref (a 0)), (1, .int x), (2, .int k)] := hl
  refine lv_aload_n C0.1 C0.2.1 d_WS_blow_0 rfl (lv_at hl 0 rfl) ?_
  refine lv_iload_n C0.1 C0.2.1 d_WS_blow_1 rfl (lv_at hl 1 rfl) ?_
  refine cR (As := [.int x]) (rest := []) C0 (c_WS_wayNumbered_no x hwn hno) (q_WS_82 C0.2.2.2.2.1 rfl rfl ⟨Nat.le_of_ble_eq_true rfl, Nat.le_of_ble_eq_true rfl⟩) (ci := 0) (q0 := 0) rfl rfl rfl hP hl.1 rfl rfl (Nat.le_of_ble_eq_true rfl) d_WS_blow_2 ⟨Nat.zero_le _, Nat.zero_le _⟩ ?_
  refine W.eq (g2 := F0 m 5 ls [.null]) rfl ?_
  refine lv_astore_nN (lv' := [(3, .null), (0, .ref (a 0)), (1, .int x), (2, .int k)]) C0.1 C0.2.1 d_WS_blow_5 rfl hl (by decide) rfl (fun ls hl => ?_)
  refine lv_aload_nN C0.1 C0.2.1 d_WS_blow_6 rfl (lv_at hl 0 rfl) ?_
  refine lv_ifnonnullN C0.1 C0.2.1 d_WS_blow_7 ?_
  refine lv_bipush (v := -2) C0.1 C0.2.1 d_WS_blow_10 (by decide) ?_
  exact eR_i C0 hr hlk (rfl) d_WS_blow_12
set_option maxHeartbeats 4000000 in
set_option maxRecDepth 100000 in
theorem c_WS_blow_out (i pa ta oa fr to0 lit : Nat) (pl tl : List Nat) (hwn : wn ≤ 64) (hi : i < wn) (hoa : wa i = some oa) (hx : L[i]? = some (pa, ta, oa, fr, to0, lit, pl, tl)) (hl1 : pl.length < 1000) (hl2 : tl.length < 1000) (k : Int32) (hp1 : 1 ≤ pl.length) (hk0 : hasB pl.length k = false) : Rd l y_WS_blow w_WS_blow ({ frames := 2, cells := 0, slots := 0, locals := 43 }) g classes (tyL t) [.ref (a 0), .int (nI i), .int k] (wW a t n kd em br ii oo np ea eb li rn wa wn sT sP ak ap af tt ac ct rp rt rest L) (some (.int (-1))) := by
  refine Rd.of (cc := b_WS_blow) (maxL := 6) (ret := (some .int)) (own := R_WS) (by decide) rfl rfl (Nat.le_of_ble_eq_true rfl) ?_
  intro p e s m args below meth c C0 hr hlk hP ls hl
  have hl : lv_has ls 6 [(0, .ref (a 0)), (1, .int (nI i)), (2, .int k)] := hl
  refine lv_aload_n C0.1 C0.2.1 d_WS_blow_0 rfl (lv_at hl 0 rfl) ?_
  refine lv_iload_n C0.1 C0.2.1 d_WS_blow_1 rfl (lv_at hl 1 rfl) ?_
  refine cR (As := [.int (nI i)]) (rest := []) C0 (c_WS_wayNumbered i oa hwn hi hoa) (q_WS_82 C0.2.2.2.2.1 rfl rfl ⟨Nat.le_of_ble_eq_true rfl, Nat.le_of_ble_eq_true rfl⟩) (ci := 0) (q0 := 0) rfl rfl rfl hP hl.1 rfl rfl (Nat.le_of_ble_eq_true rfl) d_WS_blow_2 ⟨Nat.zero_le _, Nat.zero_le _⟩ ?_
  refine W.eq (g2 := F0 m 5 ls [.ref oa]) rfl ?_
  refine lv_astore_n (lv' := [(3, .ref oa), (0, .ref (a 0)), (1, .int (nI i)), (2, .int k)]) C0.1 C0.2.1 d_WS_blow_5 rfl hl (by decide) rfl (fun ls hl => ?_)
  refine lv_aload_n C0.1 C0.2.1 d_WS_blow_6 rfl (lv_at hl 0 rfl) ?_
  refine lv_ifnonnull (tgt := 13) C0.1 C0.2.1 d_WS_blow_7 (by decide) ?_
  refine lv_aload_n C0.1 C0.2.1 d_WS_blow_13 rfl (lv_at hl 0 rfl) ?_
  refine gf_WS_141 C0 hP (23 + (rest.length + (3 * i + 2))) (wW_w2 hx) rfl d_WS_blow_14 ?_
  refine alen (n := pl.length) C0 hP (23 + (rest.length + (3 * i + 0))) 0 (wW_w0 hx) rfl rfl d_WS_blow_17 ?_
  refine lv_iconst (v := nI 1) C0.1 C0.2.1 d_WS_blow_18 (by decide) ?_
  refine lv_isub C0.1 C0.2.1 d_WS_blow_19 ?_
  refine ti (show (nI pl.length) - (nI 1) = nI (pl.length - 1) from pk_sub (by omega)) ?_
  refine lv_istore (lv' := [(4, .int (nI (pl.length - 1))), (3, .ref oa), (0, .ref (a 0)), (1, .int (nI i)), (2, .int k)]) C0.1 C0.2.1 d_WS_blow_20 hl (by decide) rfl (fun ls hl => ?_)
  refine lv_iload_n C0.1 C0.2.1 d_WS_blow_22 rfl (lv_at hl 4 rfl) ?_
  refine lv_if_lt (tgt := 32) C0.1 C0.2.1 d_WS_blow_23 (by decide) (fun c_23 => ?_) (fun c_23 => ?_)
  · refine lv_iconst (v := -1) C0.1 C0.2.1 d_WS_blow_32 (by decide) ?_
    exact eR_i C0 hr hlk (rfl) d_WS_blow_33
  · refine lv_iload_n C0.1 C0.2.1 d_WS_blow_26 rfl (lv_at hl 4 rfl) ?_
    refine lv_iload C0.1 C0.2.1 d_WS_blow_27 (lv_at hl 0 rfl) ?_
    refine lv_icmp_le (tgt := 34) C0.1 C0.2.1 d_WS_blow_29 (by decide) (fun c_29 => ?_) (fun c_29 => ?_)
    · exact absurd (hasB_t (n := pl.length) (by omega) c_23 (fun q => by have h1 := Int32.le_iff_toInt_le.mp c_29; have h2 := Int32.le_iff_toInt_le.mp q; rw [nI_toInt (by omega)] at h1; rw [nI_toInt (by omega)] at h2; omega)) (by rw [hk0]; decide)
    · refine lv_iconst (v := -1) C0.1 C0.2.1 d_WS_blow_32 (by decide) ?_
      exact eR_i C0 hr hlk (rfl) d_WS_blow_33
set_option maxHeartbeats 4000000 in
set_option maxRecDepth 100000 in
theorem c_WS_blow (i pa ta oa fr to0 lit : Nat) (pl tl : List Nat) (hwn : wn ≤ 64) (hi : i < wn) (hoa : wa i = some oa) (hx : L[i]? = some (pa, ta, oa, fr, to0, lit, pl, tl)) (htl : ∀ v ∈ tl, v < n) (hll : tl.length = pl.length + 1) (hl1 : pl.length < 1000) (hl2 : tl.length < 1000) (k : Nat) (hk1 : k < pl.length) (hn : n ≤ 48) (hk : ∀ j, kd j < 3) : Rd l y_WS_blow w_WS_blow ({ frames := 2, cells := 0, slots := 0, locals := 43 }) g classes (tyL t) [.ref (a 0), .int (nI i), .int (nI k)] (wW a t n kd em br ii oo np ea eb li rn wa wn sT sP ak ap af tt ac ct rp rt rest L) (some (.int (blw kd pl tl k))) := by
  refine Rd.of (cc := b_WS_blow) (maxL := 6) (ret := (some .int)) (own := R_WS) (by decide) rfl rfl (Nat.le_of_ble_eq_true rfl) ?_
  intro p e s m args below meth c C0 hr hlk hP ls hl
  have hl : lv_has ls 6 [(0, .ref (a 0)), (1, .int (nI i)), (2, .int (nI k))] := hl
  refine lv_aload_n C0.1 C0.2.1 d_WS_blow_0 rfl (lv_at hl 0 rfl) ?_
  refine lv_iload_n C0.1 C0.2.1 d_WS_blow_1 rfl (lv_at hl 1 rfl) ?_
  refine cR (As := [.int (nI i)]) (rest := []) C0 (c_WS_wayNumbered i oa hwn hi hoa) (q_WS_82 C0.2.2.2.2.1 rfl rfl ⟨Nat.le_of_ble_eq_true rfl, Nat.le_of_ble_eq_true rfl⟩) (ci := 0) (q0 := 0) rfl rfl rfl hP hl.1 rfl rfl (Nat.le_of_ble_eq_true rfl) d_WS_blow_2 ⟨Nat.zero_le _, Nat.zero_le _⟩ ?_
  refine W.eq (g2 := F0 m 5 ls [.ref oa]) rfl ?_
  refine lv_astore_n (lv' := [(3, .ref oa), (0, .ref (a 0)), (1, .int (nI i)), (2, .int (nI k))]) C0.1 C0.2.1 d_WS_blow_5 rfl hl (by decide) rfl (fun ls hl => ?_)
  refine lv_aload_n C0.1 C0.2.1 d_WS_blow_6 rfl (lv_at hl 0 rfl) ?_
  refine lv_ifnonnull (tgt := 13) C0.1 C0.2.1 d_WS_blow_7 (by decide) ?_
  refine lv_aload_n C0.1 C0.2.1 d_WS_blow_13 rfl (lv_at hl 0 rfl) ?_
  refine gf_WS_141 C0 hP (23 + (rest.length + (3 * i + 2))) (wW_w2 hx) rfl d_WS_blow_14 ?_
  refine alen (n := pl.length) C0 hP (23 + (rest.length + (3 * i + 0))) 0 (wW_w0 hx) rfl rfl d_WS_blow_17 ?_
  refine lv_iconst (v := nI 1) C0.1 C0.2.1 d_WS_blow_18 (by decide) ?_
  refine lv_isub C0.1 C0.2.1 d_WS_blow_19 ?_
  refine ti (show (nI pl.length) - (nI 1) = nI (pl.length - 1) from pk_sub (by omega)) ?_
  refine lv_istore (lv' := [(4, .int (nI (pl.length - 1))), (3, .ref oa), (0, .ref (a 0)), (1, .int (nI i)), (2, .int (nI k))]) C0.1 C0.2.1 d_WS_blow_20 hl (by decide) rfl (fun ls hl => ?_)
  refine lv_iload_n C0.1 C0.2.1 d_WS_blow_22 rfl (lv_at hl 4 rfl) ?_
  refine lv_if_lt (tgt := 32) C0.1 C0.2.1 d_WS_blow_23 (by decide) (fun c_23 => ?_) (fun c_23 => ?_)
  · exact absurd c_23 (nI_pos (by omega))
  · refine lv_iload_n C0.1 C0.2.1 d_WS_blow_26 rfl (lv_at hl 4 rfl) ?_
    refine lv_iload C0.1 C0.2.1 d_WS_blow_27 (lv_at hl 0 rfl) ?_
    refine lv_icmp_le (tgt := 34) C0.1 C0.2.1 d_WS_blow_29 (by decide) (fun c_29 => ?_) (fun c_29 => ?_)
    · refine lv_iload C0.1 C0.2.1 d_WS_blow_34 (lv_at hl 0 rfl) ?_
      refine lv_istore (lv' := [(5, .int (nI (pl.length - 1))), (4, .int (nI (pl.length - 1))), (3, .ref oa), (0, .ref (a 0)), (1, .int (nI i)), (2, .int (nI k))]) C0.1 C0.2.1 d_WS_blow_36 hl (by decide) rfl (fun ls hl => ?_)
      refine wlR (σ := Nat) (head := 38) (fun z_ => k - z_) (fun z_ => z_ ≤ k ∧ ∀ y, y < z_ → kd (tl.getD (pl.length - 1 - y) 0) ≠ 1) (fun z_ => [(0, .ref (a 0)), (2, .int (nI k)), (3, .ref oa), (4, .int (nI (pl.length - 1))), (5, .int (nI (pl.length - 1 - z_)))]) ?_ 0 (show 0 ≤ k ∧ ∀ y, y < 0 → kd (tl.getD (pl.length - 1 - y) 0) ≠ 1 from ⟨Nat.zero_le _, fun y h => absurd h (Nat.not_lt_zero _)⟩) (lv_sub hl [3, 5, 2, 1, 0] rfl)
      rintro z hi ih ls hl
      have hi : z ≤ k ∧ ∀ y, y < z → kd (tl.getD (pl.length - 1 - y) 0) ≠ 1 := hi
      obtain ⟨hi1, hi2⟩ := hi
      have hl : lv_has ls 6 [(0, .ref (a 0)), (2, .int (nI k)), (3, .ref oa), (4, .int (nI (pl.length - 1))), (5, .int (nI (pl.length - 1 - z)))] := hl
      refine lv_iload C0.1 C0.2.1 d_WS_blow_38 (lv_at hl 4 rfl) ?_
      refine lv_iload C0.1 C0.2.1 d_WS_blow_40 (lv_at hl 3 rfl) ?_
      refine lv_iload_n C0.1 C0.2.1 d_WS_blow_42 rfl (lv_at hl 1 rfl) ?_
      refine lv_isub C0.1 C0.2.1 d_WS_blow_43 ?_
      refine ti (show (nI (pl.length - 1)) - (nI k) = nI (pl.length - 1 - k) from pk_sub (by omega)) ?_
      refine lv_icmp_le (tgt := 72) C0.1 C0.2.1 d_WS_blow_44 (by decide) (fun c_44 => ?_) (fun c_44 => ?_)
      · have hz : z = k := by have := (nI_leI (by omega) (by omega)).mp c_44; omega
        refine lv_aload_n C0.1 C0.2.1 d_WS_blow_72 rfl (lv_at hl 2 rfl) ?_
        refine lv_iload C0.1 C0.2.1 d_WS_blow_73 (lv_at hl 3 rfl) ?_
        refine lv_iload_n C0.1 C0.2.1 d_WS_blow_75 rfl (lv_at hl 1 rfl) ?_
        refine lv_isub C0.1 C0.2.1 d_WS_blow_76 ?_
        refine ti (show (nI (pl.length - 1)) - (nI k) = nI (pl.length - 1 - k) from pk_sub (by omega)) ?_
        refine cR (As := [.int (nI (pl.length - 1 - k))]) (rest := []) C0 (c_FW_pipeAt (23 + (rest.length + (3 * i + 2))) (23 + (rest.length + (3 * i + 0))) oa pa ta pl.length (fun j => nI (pl.getD j 0)) (nI fr) (nI to0) (lN lit) (nI (pl.length - 1 - k)) (wW_w2 hx) (wW_w0 hx) (by omega)) (q_WS_86 C0.2.2.2.2.1 rfl rfl ⟨Nat.le_of_ble_eq_true rfl, Nat.le_of_ble_eq_true rfl⟩) (ci := 4) (q0 := 23 + (rest.length + (3 * i + 2))) rfl rfl (wW_w2 hx) hP hl.1 rfl rfl (Nat.le_of_ble_eq_true rfl) d_WS_blow_77 ⟨Nat.zero_le _, Nat.zero_le _⟩ ?_
        refine W.eq (g2 := F0 m 80 ls [.int (pAt pl.length (fun j => nI (pl.getD j 0)) (nI (pl.length - 1 - k)))]) rfl ?_
        exact eR_i C0 hr hlk (by rw [pAt_j (by omega) (by omega), show blw kd pl tl k = nI (pl.getD (pl.length - 1 - k) 0) from if_pos ⟨fun y hy => hi2 y (by omega), hk1⟩]) d_WS_blow_80
      · have hz : z < k := by have := (nI_nle' (by omega) (by omega)).mp c_44; omega
        have hv : tl.getD (pl.length - 1 - z) 0 < n := htl _ (gD_mem (by omega))
        refine lv_aload_n C0.1 C0.2.1 d_WS_blow_47 rfl (lv_at hl 0 rfl) ?_
        refine gf_WS_10 C0 hP 0 rfl rfl d_WS_blow_48 ?_
        refine lv_aload_n C0.1 C0.2.1 d_WS_blow_51 rfl (lv_at hl 2 rfl) ?_
        refine lv_iload C0.1 C0.2.1 d_WS_blow_52 (lv_at hl 4 rfl) ?_
        refine cR (As := [.int (nI (pl.length - 1 - z))]) (rest := [.ref (a 1)]) C0 (c_FW_thingAt (23 + (rest.length + (3 * i + 2))) (23 + (rest.length + (3 * i + 1))) oa pa ta tl.length (fun j => nI (tl.getD j 0)) (nI fr) (nI to0) (lN lit) (nI (pl.length - 1 - z)) (wW_w2 hx) (wW_w1 hx) (by omega)) (q_WS_143 C0.2.2.2.2.1 rfl rfl ⟨Nat.le_of_ble_eq_true rfl, Nat.le_of_ble_eq_true rfl⟩) (ci := 4) (q0 := 23 + (rest.length + (3 * i + 2))) rfl rfl (wW_w2 hx) hP hl.1 rfl rfl (Nat.le_of_ble_eq_true rfl) d_WS_blow_54 ⟨Nat.zero_le _, Nat.zero_le _⟩ ?_
        refine W.eq (g2 := F0 m 57 ls [.int (pAt tl.length (fun j => nI (tl.getD j 0)) (nI (pl.length - 1 - z))), .ref (a 1)]) rfl ?_
        refine lv_iconst (v := nI 1) C0.1 C0.2.1 d_WS_blow_57 (by decide) ?_
        rw [pAt_j (show pl.length - 1 - z < tl.length by omega) (by omega)]
        refine cR (As := [.int (nI (tl.getD (pl.length - 1 - z) 0)), .int (nI 1)]) (rest := []) C0 (c_TH_isKind (nI (tl.getD (pl.length - 1 - z) 0)) 1 (by decide) hn hk) (q_WS_93 C0.2.2.2.2.1 rfl rfl ⟨Nat.le_of_ble_eq_true rfl, Nat.le_of_ble_eq_true rfl⟩) (ci := 1) (q0 := 1) rfl rfl rfl hP hl.1 rfl rfl (Nat.le_of_ble_eq_true rfl) d_WS_blow_58 ⟨Nat.zero_le _, Nat.zero_le _⟩ ?_
        refine W.eq (g2 := F0 m 61 ls [.int (bI (isK n kd (nI (tl.getD (pl.length - 1 - z) 0)) 1))]) rfl ?_
        refine lv_if_eq (tgt := 66) C0.1 C0.2.1 d_WS_blow_61 (by decide) (fun c_61 => ?_) (fun c_61 => ?_)
        · have hkv : kd (tl.getD (pl.length - 1 - z) 0) ≠ 1 := of_decide_eq_false (by rw [← isK_j hv (by have := hk (tl.getD (pl.length - 1 - z) 0); omega) (by omega)]; exact bI_0.mp c_61)
          refine lv_iinc (v := nI (pl.length - 1 - (z + 1))) (lv' := [(5, .int (nI (pl.length - 1 - (z + 1)))), (0, .ref (a 0)), (2, .int (nI k)), (3, .ref oa), (4, .int (nI (pl.length - 1)))]) C0.1 C0.2.1 d_WS_blow_66 hl (k := 4) rfl (dec1 (by omega)) (by decide) rfl (fun ls hl => ?_)
          refine lv_goto (tgt := 38) C0.1 C0.2.1 d_WS_blow_69 (by decide) ?_
          exact ih (z + 1) (show (z + 1) ≤ k ∧ ∀ y, y < (z + 1) → kd (tl.getD (pl.length - 1 - y) 0) ≠ 1 from ⟨by omega, lt_s hi2 hkv⟩) (show k - (z + 1) < k - z from by omega) ls (lv_sub hl [1, 2, 3, 4, 0] rfl)
        · have hkv : kd (tl.getD (pl.length - 1 - z) 0) = 1 := of_decide_eq_true (by rw [← isK_j hv (by have := hk (tl.getD (pl.length - 1 - z) 0); omega) (by omega)]; exact bI_n0.mp c_61)
          refine lv_iconst (v := -1) C0.1 C0.2.1 d_WS_blow_64 (by decide) ?_
          exact eR_i C0 hr hlk (by rw [show blw kd pl tl k = -1 from if_neg (fun q => q.1 z hz hkv)]) d_WS_blow_65
    · exact absurd (nI_le (by omega) (by omega)) c_29
set_option maxHeartbeats 4000000 in
set_option maxRecDepth 100000 in
theorem c_WS_keep_null  : Rd l y_WS_keep w_WS_keep ({ frames := 0, cells := 0, slots := 0, locals := 0 }) g classes (tyL t) [.ref (a 0), .null] (wW a t n kd em br ii oo np ea eb li rn wa wn sT sP ak ap af tt ac ct rp rt rest L) (some (.int (-1))) := by
  refine Rd.of (cc := b_WS_keep) (maxL := 2) (ret := (some .int)) (own := R_WS) (by decide) rfl rfl (Nat.le_of_ble_eq_true rfl) ?_
  intro p e s m args below meth c C0 hr hlk hP ls hl
  have hl : lv_has ls 2 [(0, .ref (a 0)), (1, .null)] := hl
  refine lv_aload_nN C0.1 C0.2.1 d_WS_keep_0 rfl (lv_at hl 1 rfl) ?_
  refine lv_ifnonnullN C0.1 C0.2.1 d_WS_keep_1 ?_
  refine lv_iconst (v := -1) C0.1 C0.2.1 d_WS_keep_4 (by decide) ?_
  exact eR_i C0 hr hlk (rfl) d_WS_keep_5
set_option maxHeartbeats 4000000 in
set_option maxRecDepth 100000 in
theorem c_WS_keep_full (oa : Nat) (hwn : wn = 64) : Rd l y_WS_keep w_WS_keep ({ frames := 0, cells := 0, slots := 0, locals := 0 }) g classes (tyL t) [.ref (a 0), .ref oa] (wW a t n kd em br ii oo np ea eb li rn wa wn sT sP ak ap af tt ac ct rp rt rest L) (some (.int (-5))) := by
  refine Rd.of (cc := b_WS_keep) (maxL := 2) (ret := (some .int)) (own := R_WS) (by decide) rfl rfl (Nat.le_of_ble_eq_true rfl) ?_
  intro p e s m args below meth c C0 hr hlk hP ls hl
  have hl : lv_has ls 2 [(0, .ref (a 0)), (1, .ref oa)] := hl
  refine lv_aload_n C0.1 C0.2.1 d_WS_keep_0 rfl (lv_at hl 1 rfl) ?_
  refine lv_ifnonnull (tgt := 6) C0.1 C0.2.1 d_WS_keep_1 (by decide) ?_
  refine lv_aload_n C0.1 C0.2.1 d_WS_keep_6 rfl (lv_at hl 0 rfl) ?_
  refine gf_WS_38 C0 hP 0 rfl rfl d_WS_keep_7 ?_
  refine lv_bipush (v := nI 64) C0.1 C0.2.1 d_WS_keep_10 (by decide) ?_
  refine lv_icmp_lt (tgt := 18) C0.1 C0.2.1 d_WS_keep_12 (by decide) (fun c_12 => ?_) (fun c_12 => ?_)
  · exact absurd ((nI_ltI (by omega) (by omega)).mp c_12) (by omega)
  · refine lv_bipush (v := -5) C0.1 C0.2.1 d_WS_keep_15 (by decide) ?_
    exact eR_i C0 hr hlk (rfl) d_WS_keep_17
set_option maxHeartbeats 4000000 in
set_option maxRecDepth 100000 in
theorem c_WS_keep (i pa ta oa fr to0 lit : Nat) (pl tl : List Nat) (hx : L[i]? = some (pa, ta, oa, fr, to0, lit, pl, tl)) (hwn : wn < 64) : Mt l y_WS_keep w_WS_keep ({ frames := 0, cells := 0, slots := 0, locals := 0 }) g classes (tyL t) [.ref (a 0), .ref oa] (wW a t n kd em br ii oo np ea eb li rn wa wn sT sP ak ap af tt ac ct rp rt rest L) (S := Unit) (fun v _ => v = some (.int (nI wn))) (fun _ => (wW a t n kd em br ii oo np ea eb li rn (va_up wa wn (some oa)) (wn + 1) sT sP ak ap af tt ac ct rp rt rest L)) 0 0 := by
  refine Mt.of (cc := b_WS_keep) (maxL := 2) (ret := (some .int)) (own := R_WS) (by decide) rfl rfl (Nat.le_of_ble_eq_true rfl) ?_
  intro p e s m args below meth c C0 hr hlk hin A hA hB ls hl
  have hl : lv_has ls 2 [(0, .ref (a 0)), (1, .ref oa)] := hl
  refine lv_aload_n C0.1 C0.2.1 d_WS_keep_0 rfl (lv_at hl 1 rfl) ?_
  refine lv_ifnonnull (tgt := 6) C0.1 C0.2.1 d_WS_keep_1 (by decide) ?_
  refine lv_aload_n C0.1 C0.2.1 d_WS_keep_6 rfl (lv_at hl 0 rfl) ?_
  refine gf_WS_38 C0 hB.1 0 rfl rfl d_WS_keep_7 ?_
  refine lv_bipush (v := nI 64) C0.1 C0.2.1 d_WS_keep_10 (by decide) ?_
  refine lv_icmp_lt (tgt := 18) C0.1 C0.2.1 d_WS_keep_12 (by decide) (fun c_12 => ?_) (fun c_12 => ?_)
  · refine lv_aload_n C0.1 C0.2.1 d_WS_keep_18 rfl (lv_at hl 0 rfl) ?_
    refine gf_WS_34 C0 hB.1 0 rfl rfl d_WS_keep_19 ?_
    refine lv_aload_n C0.1 C0.2.1 d_WS_keep_22 rfl (lv_at hl 0 rfl) ?_
    refine gf_WS_38 C0 hB.1 0 rfl rfl d_WS_keep_23 ?_
    refine lv_aload_n C0.1 C0.2.1 d_WS_keep_26 rfl (lv_at hl 1 rfl) ?_
    refine ast_q (w' := (wW a t n kd em br ii oo np ea eb li rn (va_up wa wn (some oa)) wn sT sP ak ap af tt ac ct rp rt rest L)) (qk := 23 + (rest.length + (3 * i + 2))) (ci := 4) C0 hB 4 3 rfl rfl (wW_w2 hx) rfl (by omega) (by decide) rfl rfl d_WS_keep_27 (fun H locs hB => ?_)
    refine lv_aload_n C0.1 C0.2.1 d_WS_keep_28 rfl (lv_at hl 0 rfl) ?_
    refine lv_dup C0.1 C0.2.1 d_WS_keep_29 rfl ?_
    refine gf_WS_38 C0 hB.1 0 rfl rfl d_WS_keep_30 ?_
    refine lv_iconst (v := nI 1) C0.1 C0.2.1 d_WS_keep_33 (by decide) ?_
    refine lv_iadd C0.1 C0.2.1 d_WS_keep_34 ?_
    refine ti (show (nI wn) + (nI 1) = nI (wn + 1) from nI_add _ _) ?_
    refine pf_WS_38 (w' := (wW a t n kd em br ii oo np ea eb li rn (va_up wa wn (some oa)) (wn + 1) sT sP ak ap af tt ac ct rp rt rest L)) C0 hB 0 rfl (Nat.le_of_ble_eq_true rfl) rfl rfl rfl d_WS_keep_35 (fun H locs hB => ?_)
    refine lv_aload_n C0.1 C0.2.1 d_WS_keep_38 rfl (lv_at hl 0 rfl) ?_
    refine gf_WS_38 C0 hB.1 0 rfl rfl d_WS_keep_39 ?_
    refine lv_iconst (v := nI 1) C0.1 C0.2.1 d_WS_keep_42 (by decide) ?_
    refine lv_isub C0.1 C0.2.1 d_WS_keep_43 ?_
    refine ti (show (nI (wn + 1)) - (nI 1) = nI wn from (pk_sub (by omega) : nI (wn + 1) - nI 1 = nI (wn + 1 - 1))) ?_
    exact eM_i C0 hr hlk () hB (rfl) (Nat.le_refl _) (Nat.le_refl _) d_WS_keep_44
  · exact absurd ((nI_ltI (by omega) (by omega)).mpr hwn) c_12
end CALLS3
end
section
theorem wB.drop {g : va_G} {cl : List vw_C} {A : Nat → Prop} {H0 : Heap} {w w' : va_W} {H : Heap} {locs : List Loc} (hB : wB g cl A H0 (w ++ w') H locs) : wB g cl A H0 w H locs := by
  obtain ⟨hP, hD, hS, hA⟩ := hB
  refine ⟨fun k q hk => hP k q (app_low hk), ⟨fun i j p q hi hj e => hD.1 i j p q (app_low hi) (app_low hj) e, fun k q hk => hD.2 k q (app_low hk)⟩, hS, hA⟩
theorem wB.pop {g : va_G} {cl : List vw_C} {A : Nat → Prop} {H0 : Heap} {H : Heap} {locs : List Loc} {a : Nat → Nat} {t : Nat → ClassId} {n : Nat} {kd : Nat → Nat} {em : Nat → Bool} {br : Nat → Bool} {ii : Nat → Int32} {oo : Nat → Int32} {np : Nat} {ea : Nat → Nat} {eb : Nat → Nat} {li : Nat → Nat} {rn : Nat → Bool} {wa : Nat → Option Nat} {wn : Nat} {sT : Nat → Bool} {sP : Nat → Bool} {ak : Nat} {ap : Nat → Nat} {af : Nat → Nat} {tt : Nat → Nat} {ac : Nat → Nat} {ct : Nat → Nat} {rp : Nat → Nat} {rt : Nat → Nat} {rest : va_W} {L : List Wy} {x : Wy} (hB : wB g cl A H0 (wW a t n kd em br ii oo np ea eb li rn wa wn sT sP ak ap af tt ac ct rp rt rest (L ++ [x])) H locs) : wB g cl A H0 (wW a t n kd em br ii oo np ea eb li rn wa wn sT sP ak ap af tt ac ct rp rt rest L) H locs := by
  rw [wW_push] at hB
  exact hB.drop.drop.drop
section CALLS4
variable {l : Launch} {g : va_G} {t : Nat → ClassId} {a : Nat → Nat} {n : Nat} {kd : Nat → Nat} {em : Nat → Bool} {br : Nat → Bool} {ii : Nat → Int32} {oo : Nat → Int32} {np : Nat} {ea : Nat → Nat} {eb : Nat → Nat} {li : Nat → Nat} {rn : Nat → Bool} {wa : Nat → Option Nat} {wn : Nat} {sT : Nat → Bool} {sP : Nat → Bool} {ak : Nat} {ap : Nat → Nat} {af : Nat → Nat} {tt : Nat → Nat} {ac : Nat → Nat} {ct : Nat → Nat} {rp : Nat → Nat} {rt : Nat → Nat} {rest : va_W} {L : List Wy}
set_option maxHeartbeats 4000000 in
set_option maxRecDepth 100000 in
theorem c_WS_way_no (x y : Int32) (hn : n ≤ 48) (hk : ∀ j, kd j < 3) (hno : ¬ refC n kd em x y = 0) : Rd l y_WS_way w_WS_way ({ frames := 4, cells := 0, slots := 0, locals := 132 }) g classes (tyL t) [.ref (a 0), .int x, .int y] (wW a t n kd em br ii oo np ea eb li rn wa wn sT sP ak ap af tt ac ct rp rt rest L) (some (.int (refC n kd em x y))) := by
  refine Rd.of (cc := b_WS_way) (maxL := 4) (ret := (some .int)) (own := R_WS) (by decide) rfl rfl (Nat.le_of_ble_eq_true rfl) ?_
  intro p e s m args below meth c C0 hr hlk hP ls hl
  have hl : lv_has ls 4 [(0, .ref (a 0)), (1, .int x), (2, .int y)] := hl
  refine lv_aload_n C0.1 C0.2.1 d_WS_way_0 rfl (lv_at hl 0 rfl) ?_
  refine lv_iload_n C0.1 C0.2.1 d_WS_way_1 rfl (lv_at hl 1 rfl) ?_
  refine lv_iload_n C0.1 C0.2.1 d_WS_way_2 rfl (lv_at hl 2 rfl) ?_
  refine cR (As := [.int x, .int y]) (rest := []) C0 (c_WS_refusalOfEnds x y hn hk) (q_WS_67 C0.2.2.2.2.1 rfl rfl ⟨Nat.le_of_ble_eq_true rfl, Nat.le_of_ble_eq_true rfl⟩) (ci := 0) (q0 := 0) rfl rfl rfl hP hl.1 rfl rfl (Nat.le_of_ble_eq_true rfl) d_WS_way_3 ⟨Nat.zero_le _, Nat.zero_le _⟩ ?_
  refine W.eq (g2 := F0 m 6 ls [.int (refC n kd em x y)]) rfl ?_
  refine lv_istore_n (lv' := [(3, .int (refC n kd em x y)), (0, .ref (a 0)), (1, .int x), (2, .int y)]) C0.1 C0.2.1 d_WS_way_6 rfl hl (by decide) rfl (fun ls hl => ?_)
  refine lv_iload_n C0.1 C0.2.1 d_WS_way_7 rfl (lv_at hl 0 rfl) ?_
  refine lv_if_eq (tgt := 13) C0.1 C0.2.1 d_WS_way_8 (by decide) (fun c_8 => ?_) (fun c_8 => ?_)
  · exact absurd c_8 hno
  · refine lv_iload_n C0.1 C0.2.1 d_WS_way_11 rfl (lv_at hl 0 rfl) ?_
    exact eR_i C0 hr hlk (rfl) d_WS_way_12
def wayR (k : Nat) : Option Wy → Int32
  | none => -1
  | some _ => if k < 64 then nI k else -5
set_option maxHeartbeats 4000000 in
set_option maxRecDepth 100000 in
theorem c_WS_way (u0 e0 : Nat) (hu0 : u0 < n) (he0 : e0 < n) (hok : refC n kd em (nI u0) (nI e0) = 0) (hL : L.length ≤ 64) (hn : n ≤ 48) (hnp : np ≤ 96) (hk : ∀ j, kd j < 3) (hea : ∀ j, j < np → ea j < n) (heb : ∀ j, j < np → eb j < n) (hli : ∀ j, j < np → 1 ≤ li j ∧ li j ≤ 1000000000) : Mt l y_WS_way w_WS_way ({ frames := 4, cells := 3, slots := 100, locals := 132 }) g classes (tyL t) [.ref (a 0), .int (nI u0), .int (nI e0)] (wW a t n kd em br ii oo np ea eb li rn (waL L) L.length sT sP ak ap af tt ac ct rp rt rest L) (S := ((Nat → Bool) × (Nat → Bool)) × (Nat × (Nat → Nat) × (Nat → Nat) × (Nat → Nat) × (Nat → Nat) × (Nat → Nat) × (Nat → Nat) × (Nat → Nat)) × Option Wy) (fun v z => v = some (.int (wayR L.length z.2.2)) ∧ (∀ x, x < n → z.1.1 x = shT kd br rn ea eb np x) ∧ (∀ p, p < np → z.1.2 p = rn p) ∧ cLW kd ii oo np ea eb li z.1.1 z.1.2 u0 e0 (z.2.2.map (fun x => (x.2.2.2.2.2.1, x.2.2.2.2.2.2.1, x.2.2.2.2.2.2.2))) ∧ ∀ x, z.2.2 = some x → x.2.2.2.1 = u0 ∧ x.2.2.2.2.1 = e0) (fun z => (wW a t n kd em br ii oo np ea eb li rn (waL (if L.length < 64 then apx L z.2.2 else L)) ((if L.length < 64 then apx L z.2.2 else L).length) z.1.1 z.1.2 z.2.1.1 z.2.1.2.1 z.2.1.2.2.1 z.2.1.2.2.2.1 z.2.1.2.2.2.2.1 z.2.1.2.2.2.2.2.1 z.2.1.2.2.2.2.2.2.1 z.2.1.2.2.2.2.2.2.2 rest (if L.length < 64 then apx L z.2.2 else L))) 3 100 := by
  refine Mt.of (cc := b_WS_way) (maxL := 4) (ret := (some .int)) (own := R_WS) (by decide) rfl rfl (Nat.le_of_ble_eq_true rfl) ?_
  intro p e s m args below meth c C0 hr hlk hin A hA hB ls hl
  have hl : lv_has ls 4 [(0, .ref (a 0)), (1, .int (nI u0)), (2, .int (nI e0))] := hl
  refine lv_aload_n C0.1 C0.2.1 d_WS_way_0 rfl (lv_at hl 0 rfl) ?_
  refine lv_iload_n C0.1 C0.2.1 d_WS_way_1 rfl (lv_at hl 1 rfl) ?_
  refine lv_iload_n C0.1 C0.2.1 d_WS_way_2 rfl (lv_at hl 2 rfl) ?_
  refine cR (As := [.int (nI u0), .int (nI e0)]) (rest := []) C0 (c_WS_refusalOfEnds (nI u0) (nI e0) hn hk) (q_WS_67 C0.2.2.2.2.1 rfl rfl ⟨Nat.le_of_ble_eq_true rfl, Nat.le_of_ble_eq_true rfl⟩) (ci := 0) (q0 := 0) rfl rfl rfl hB.1 hl.1 rfl rfl (Nat.le_of_ble_eq_true rfl) d_WS_way_3 ⟨Nat.zero_le _, Nat.zero_le _⟩ ?_
  refine W.eq (g2 := F0 m 6 ls [.int (refC n kd em (nI u0) (nI e0))]) rfl ?_
  refine lv_istore_n (lv' := [(3, .int (refC n kd em (nI u0) (nI e0))), (0, .ref (a 0)), (1, .int (nI u0)), (2, .int (nI e0))]) C0.1 C0.2.1 d_WS_way_6 rfl hl (by decide) rfl (fun ls hl => ?_)
  refine lv_iload_n C0.1 C0.2.1 d_WS_way_7 rfl (lv_at hl 0 rfl) ?_
  refine lv_if_eq (tgt := 13) C0.1 C0.2.1 d_WS_way_8 (by decide) (fun c_8 => ?_) (fun c_8 => ?_)
  · refine lv_aload_n C0.1 C0.2.1 d_WS_way_13 rfl (lv_at hl 1 rfl) ?_
    refine gf_WS_28 C0 hB.1 0 rfl rfl d_WS_way_14 ?_
    refine cM (As := []) (rest := []) C0 (c_SE_openAll hn hnp hk hea heb) (q_WS_71 C0.2.2.2.2.1 rfl rfl ⟨Nat.le_of_ble_eq_true rfl, Nat.le_of_ble_eq_true rfl⟩) (ci := 3) (q0 := 3) rfl rfl rfl hB hl.1 rfl rfl (Nat.le_of_ble_eq_true rfl) d_WS_way_17 ⟨Nat.zero_le _, Nat.zero_le _⟩ (fun v_17 u_17 H locs hp_17 hB => ?_)
    obtain ⟨s1, s2⟩ := u_17
    obtain ⟨rfl, hs1, hs2⟩ := hp_17
    have hB : wB g classes A s.heap (wW a t n kd em br ii oo np ea eb li rn (waL L) L.length s1 s2 ak ap af tt ac ct rp rt rest L) H locs := hB
    refine W.eq (g2 := F0 m 20 ls []) rfl ?_
    refine lv_aload_n C0.1 C0.2.1 d_WS_way_20 rfl (lv_at hl 1 rfl) ?_
    refine lv_aload_n C0.1 C0.2.1 d_WS_way_21 rfl (lv_at hl 1 rfl) ?_
    refine gf_WS_28 C0 hB.1 0 rfl rfl d_WS_way_22 ?_
    refine lv_iload_n C0.1 C0.2.1 d_WS_way_25 rfl (lv_at hl 2 rfl) ?_
    refine lv_iload_n C0.1 C0.2.1 d_WS_way_26 rfl (lv_at hl 3 rfl) ?_
    refine cM (As := [.int (nI u0), .int (nI e0)]) (rest := [.ref (a 0)]) C0 (c_SE_leastWay u0 e0 (by omega) (by omega) hn hnp hk hea heb hli) (q_WS_74 C0.2.2.2.2.1 rfl rfl ⟨Nat.le_of_ble_eq_true rfl, Nat.le_of_ble_eq_true rfl⟩) (ci := 3) (q0 := 3) rfl rfl rfl hB hl.1 rfl rfl (Nat.le_of_ble_eq_true rfl) d_WS_way_27 ⟨Nat.le_of_ble_eq_true rfl, Nat.le_of_ble_eq_true rfl⟩ (fun v_27 u_27 H locs hp_27 hB => ?_)
    obtain ⟨⟨k1, p1, f1, t1, c1, d1, r1, q1⟩, ox⟩ := u_27
    obtain ⟨rfl, hw1, hw2⟩ := hp_27
    have hB : wB g classes A s.heap (wW a t n kd em br ii oo np ea eb li rn (waL L) L.length s1 s2 k1 p1 f1 t1 c1 d1 r1 q1 rest (apx L ox)) H locs := hB
    refine W.eq (g2 := F0 m 30 ls [va_rf (Option.map (fun x => x.2.2.1) ox), .ref (a 0)]) rfl ?_
    cases ox with
    | none =>
      have hB : wB g classes A s.heap (wW a t n kd em br ii oo np ea eb li rn (waL L) L.length s1 s2 k1 p1 f1 t1 c1 d1 r1 q1 rest L) H locs := hB
      refine W.eq (g2 := F0 m 30 ls [.null, .ref (a 0)]) rfl ?_
      refine cR (As := [.null]) (rest := []) C0 (c_WS_keep_null) (q_WS_78 C0.2.2.2.2.1 rfl rfl ⟨Nat.le_of_ble_eq_true rfl, Nat.le_of_ble_eq_true rfl⟩) (ci := 0) (q0 := 0) rfl rfl rfl hB.1 hl.1 rfl rfl (Nat.le_of_ble_eq_true rfl) d_WS_way_30 ⟨Nat.le_of_ble_eq_true rfl, Nat.le_of_ble_eq_true rfl⟩ ?_
      refine W.eq (g2 := F0 m 33 ls [.int (-1)]) rfl ?_
      exact eM_i C0 hr hlk ((s1, s2), (k1, p1, f1, t1, c1, d1, r1, q1), none) (show wB g classes A s.heap (wW a t n kd em br ii oo np ea eb li rn (waL (if L.length < 64 then apx L none else L)) ((if L.length < 64 then apx L none else L).length) s1 s2 k1 p1 f1 t1 c1 d1 r1 q1 rest (if L.length < 64 then apx L none else L)) H locs by rw [show ((if L.length < 64 then apx L none else L) : List Wy) = L by simp [apx]]; exact hB) ⟨rfl, hs1, hs2, hw1, hw2⟩ (Nat.le_of_ble_eq_true rfl) (Nat.le_of_ble_eq_true rfl) d_WS_way_33
    | some x =>
      obtain ⟨pa, ta, oa, fr, to0, lit, pl, tl⟩ := x
      have hB : wB g classes A s.heap (wW a t n kd em br ii oo np ea eb li rn (waL L) L.length s1 s2 k1 p1 f1 t1 c1 d1 r1 q1 rest (L ++ [(pa, ta, oa, fr, to0, lit, pl, tl)])) H locs := hB
      refine W.eq (g2 := F0 m 30 ls [.ref oa, .ref (a 0)]) rfl ?_
      by_cases h64 : L.length < 64
      · refine cM (As := [.ref oa]) (rest := []) C0 (c_WS_keep L.length pa ta oa fr to0 lit pl tl (by simp) h64) (q_WS_78 C0.2.2.2.2.1 rfl rfl ⟨Nat.le_of_ble_eq_true rfl, Nat.le_of_ble_eq_true rfl⟩) (ci := 0) (q0 := 0) rfl rfl rfl hB hl.1 rfl rfl (Nat.le_of_ble_eq_true rfl) d_WS_way_30 ⟨Nat.le_of_ble_eq_true rfl, Nat.le_of_ble_eq_true rfl⟩ (fun v_30 u_30 H locs hp_30 hB => ?_)
        obtain rfl := hp_30
        have hB : wB g classes A s.heap (wW a t n kd em br ii oo np ea eb li rn (va_up (waL L) L.length (some oa)) (L.length + 1) s1 s2 k1 p1 f1 t1 c1 d1 r1 q1 rest (L ++ [(pa, ta, oa, fr, to0, lit, pl, tl)])) H locs := hB
        refine W.eq (g2 := F0 m 33 ls [.int (nI L.length)]) rfl ?_
        exact eM_i C0 hr hlk ((s1, s2), (k1, p1, f1, t1, c1, d1, r1, q1), some (pa, ta, oa, fr, to0, lit, pl, tl)) (show wB g classes A s.heap (wW a t n kd em br ii oo np ea eb li rn (waL (if L.length < 64 then apx L (some (pa, ta, oa, fr, to0, lit, pl, tl)) else L)) ((if L.length < 64 then apx L (some (pa, ta, oa, fr, to0, lit, pl, tl)) else L).length) s1 s2 k1 p1 f1 t1 c1 d1 r1 q1 rest (if L.length < 64 then apx L (some (pa, ta, oa, fr, to0, lit, pl, tl)) else L)) H locs by rw [show ((if L.length < 64 then apx L (some (pa, ta, oa, fr, to0, lit, pl, tl)) else L) : List Wy) = L ++ [(pa, ta, oa, fr, to0, lit, pl, tl)] by rw [if_pos h64]; rfl, List.length_append]; rw [← waL_push (x := (pa, ta, oa, fr, to0, lit, pl, tl))]; exact hB) ⟨by rw [show wayR L.length (some (pa, ta, oa, fr, to0, lit, pl, tl)) = nI L.length from if_pos h64], hs1, hs2, hw1, hw2⟩ (Nat.le_of_ble_eq_true rfl) (Nat.le_of_ble_eq_true rfl) d_WS_way_33
      · refine cR (As := [.ref oa]) (rest := []) C0 (c_WS_keep_full oa (by omega)) (q_WS_78 C0.2.2.2.2.1 rfl rfl ⟨Nat.le_of_ble_eq_true rfl, Nat.le_of_ble_eq_true rfl⟩) (ci := 0) (q0 := 0) rfl rfl rfl hB.1 hl.1 rfl rfl (Nat.le_of_ble_eq_true rfl) d_WS_way_30 ⟨Nat.le_of_ble_eq_true rfl, Nat.le_of_ble_eq_true rfl⟩ ?_
        refine W.eq (g2 := F0 m 33 ls [.int (-5)]) rfl ?_
        exact eM_i C0 hr hlk ((s1, s2), (k1, p1, f1, t1, c1, d1, r1, q1), some (pa, ta, oa, fr, to0, lit, pl, tl)) (show wB g classes A s.heap (wW a t n kd em br ii oo np ea eb li rn (waL (if L.length < 64 then apx L (some (pa, ta, oa, fr, to0, lit, pl, tl)) else L)) ((if L.length < 64 then apx L (some (pa, ta, oa, fr, to0, lit, pl, tl)) else L).length) s1 s2 k1 p1 f1 t1 c1 d1 r1 q1 rest (if L.length < 64 then apx L (some (pa, ta, oa, fr, to0, lit, pl, tl)) else L)) H locs by rw [show ((if L.length < 64 then apx L (some (pa, ta, oa, fr, to0, lit, pl, tl)) else L) : List Wy) = L from if_neg h64]; exact hB.pop) ⟨by rw [show wayR L.length (some (pa, ta, oa, fr, to0, lit, pl, tl)) = -5 from if_neg h64], hs1, hs2, hw1, hw2⟩ (Nat.le_of_ble_eq_true rfl) (Nat.le_of_ble_eq_true rfl) d_WS_way_33
  · exact absurd hok c_8
end CALLS4
end
section
theorem fw_mem {k t : Nat} {af tt ac c : Nat → Nat} : ∀ (w : List Nat) (v : Nat), bf_fw k af tt ac c t v w → ∀ j ∈ w, j < k
  | [], _, _, j, hj => by cases hj
  | x :: r, v, h, j, hj => by
    rcases List.mem_cons.mp hj with e | e
    · rw [e]; exact h.2.1
    · exact fw_mem r (tt x) h.2.2.2.2 j e
/-- a found way's pipes and things are there -/
theorem cLW_ok {n : Nat} {kd : Nat → Nat} {ii oo : Nat → Int32} {np : Nat} {ea eb li : Nat → Nat} {sT sP : Nat → Bool} {u0 e0 lit : Nat} {pl tl : List Nat} (h : cLW kd ii oo np ea eb li sT sP u0 e0 (some (lit, pl, tl))) (hu : u0 < n) (hea : ∀ j, j < np → ea j < n) (heb : ∀ j, j < np → eb j < n) : (∀ p ∈ pl, p < np) ∧ (∀ v ∈ tl, v < n) ∧ pl.length < 48 ∧ tl.length = pl.length + 1 := by
  obtain ⟨k, ap, af, tt, ac, c, h1, h2, h3, h4⟩ := h
  rcases h4 with ⟨h4, -⟩ | ⟨-, W, h5, h6, h7⟩
  · cases h4
  · cases h7
    refine ⟨fun p hp => ?_, fun v hv => ?_, by rw [List.length_map]; exact h6, by rw [List.length_map]; exact bf_nodes_len u0 W⟩
    · obtain ⟨j, hj, e⟩ := List.mem_map.mp hp
      rw [← e]
      exact (h1.2.1 j (fw_mem W u0 h5 j hj)).1
    · rcases List.mem_cons.mp hv with e | e
      · rw [e]; exact hu
      · obtain ⟨j, hj, e⟩ := List.mem_map.mp e
        obtain ⟨a1, -, a2, -⟩ := h1.2.1 j (fw_mem W u0 h5 j hj)
        have b1 := hea _ a1
        have b2 := heb _ a1
        rw [← e]
        rcases a2 with a2 | a2 <;> omega
theorem ot_p {rn f : Nat → Bool} {np P : Nat} (h : ∀ p, p < np → f p = rn p) : ∀ p, p < np → va_up f P true p = (rn p || decide (p = P)) := by
  intro p hp
  by_cases e : p = P
  · rw [decide_eq_true e, Bool.or_true, e, va_up_self]
  · rw [decide_eq_false e, Bool.or_false, va_up_ne _ _ e, h p hp]
def twoR (k : Nat) : Option Wy → Option Wy → Int32
  | some _, some _ => if k + 2 ≤ 64 then nI (k + 1) else -5
  | _, _ => -1
def twoL (L : List Wy) : Option Wy → Option Wy → List Wy
  | some x, some y => if L.length + 2 ≤ 64 then (L ++ [x]) ++ [y] else L
  | _, _ => L
def ref2 (n : Nat) (kd : Nat → Nat) (em : Nat → Bool) (x y z w : Int32) : Int32 := if refC n kd em x y = 0 then refC n kd em z w else refC n kd em x y

section CALLS5
variable {l : Launch} {g : va_G} {t : Nat → ClassId} {a : Nat → Nat} {n : Nat} {kd : Nat → Nat} {em : Nat → Bool} {br : Nat → Bool} {ii : Nat → Int32} {oo : Nat → Int32} {np : Nat} {ea : Nat → Nat} {eb : Nat → Nat} {li : Nat → Nat} {rn : Nat → Bool} {wa : Nat → Option Nat} {wn : Nat} {sT : Nat → Bool} {sP : Nat → Bool} {ak : Nat} {ap : Nat → Nat} {af : Nat → Nat} {tt : Nat → Nat} {ac : Nat → Nat} {ct : Nat → Nat} {rp : Nat → Nat} {rt : Nat → Nat} {rest : va_W} {L : List Wy}
set_option maxHeartbeats 4000000 in
set_option maxRecDepth 100000 in
theorem c_WS_other_no (x : Int32) (hwn : wn ≤ 64) (hno : hasB wn x = false) (k : Int32) : Rd l y_WS_other w_WS_other ({ frames := 4, cells := 0, slots := 0, locals := 132 }) g classes (tyL t) [.ref (a 0), .int x, .int k] (wW a t n kd em br ii oo np ea eb li rn wa wn sT sP ak ap af tt ac ct rp rt rest L) (some (.int (-2))) := by
  refine Rd.of (cc := b_WS_other) (maxL := 5) (ret := (some .int)) (own := R_WS) (by decide) rfl rfl (Nat.le_of_ble_eq_true rfl) ?_
  intro p e s m args below meth c C0 hr hlk hP ls hl
  have hl : lv_has ls 5 [(0, .ref (a 0)), (1, .int x), (2, .int k)] := hl
  refine lv_aload_n C0.1 C0.2.1 d_WS_other_0 rfl (lv_at hl 0 rfl) ?_
  refine lv_iload_n C0.1 C0.2.1 d_WS_other_1 rfl (lv_at hl 1 rfl) ?_
  refine cR (As := [.int x]) (rest := []) C0 (c_WS_wayNumbered_no x hwn hno) (q_WS_82 C0.2.2.2.2.1 rfl rfl ⟨Nat.le_of_ble_eq_true rfl, Nat.le_of_ble_eq_true rfl⟩) (ci := 0) (q0 := 0) rfl rfl rfl hP hl.1 rfl rfl (Nat.le_of_ble_eq_true rfl) d_WS_other_2 ⟨Nat.zero_le _, Nat.zero_le _⟩ ?_
  refine W.eq (g2 := F0 m 5 ls [.null]) rfl ?_
  refine lv_astore_nN (lv' := [(3, .null), (0, .ref (a 0)), (1, .int x), (2, .int k)]) C0.1 C0.2.1 d_WS_other_5 rfl hl (by decide) rfl (fun ls hl => ?_)
  refine lv_aload_nN C0.1 C0.2.1 d_WS_other_6 rfl (lv_at hl 0 rfl) ?_
  refine lv_ifnonnullN C0.1 C0.2.1 d_WS_other_7 ?_
  refine lv_bipush (v := -2) C0.1 C0.2.1 d_WS_other_10 (by decide) ?_
  exact eR_i C0 hr hlk (rfl) d_WS_other_12
set_option maxHeartbeats 4000000 in
set_option maxRecDepth 100000 in
theorem c_WS_other_out (i pa ta oa fr to0 lit : Nat) (pl tl : List Nat) (hwn : wn ≤ 64) (hi : i < wn) (hoa : wa i = some oa) (hx : L[i]? = some (pa, ta, oa, fr, to0, lit, pl, tl)) (hl1 : pl.length < 1000) (hl2 : tl.length < 1000) (k : Int32) (hk0 : hasB pl.length k = false) : Rd l y_WS_other w_WS_other ({ frames := 4, cells := 0, slots := 0, locals := 132 }) g classes (tyL t) [.ref (a 0), .int (nI i), .int k] (wW a t n kd em br ii oo np ea eb li rn wa wn sT sP ak ap af tt ac ct rp rt rest L) (some (.int (-1))) := by
  refine Rd.of (cc := b_WS_other) (maxL := 5) (ret := (some .int)) (own := R_WS) (by decide) rfl rfl (Nat.le_of_ble_eq_true rfl) ?_
  intro p e s m args below meth c C0 hr hlk hP ls hl
  have hl : lv_has ls 5 [(0, .ref (a 0)), (1, .int (nI i)), (2, .int k)] := hl
  refine lv_aload_n C0.1 C0.2.1 d_WS_other_0 rfl (lv_at hl 0 rfl) ?_
  refine lv_iload_n C0.1 C0.2.1 d_WS_other_1 rfl (lv_at hl 1 rfl) ?_
  refine cR (As := [.int (nI i)]) (rest := []) C0 (c_WS_wayNumbered i oa hwn hi hoa) (q_WS_82 C0.2.2.2.2.1 rfl rfl ⟨Nat.le_of_ble_eq_true rfl, Nat.le_of_ble_eq_true rfl⟩) (ci := 0) (q0 := 0) rfl rfl rfl hP hl.1 rfl rfl (Nat.le_of_ble_eq_true rfl) d_WS_other_2 ⟨Nat.zero_le _, Nat.zero_le _⟩ ?_
  refine W.eq (g2 := F0 m 5 ls [.ref oa]) rfl ?_
  refine lv_astore_n (lv' := [(3, .ref oa), (0, .ref (a 0)), (1, .int (nI i)), (2, .int k)]) C0.1 C0.2.1 d_WS_other_5 rfl hl (by decide) rfl (fun ls hl => ?_)
  refine lv_aload_n C0.1 C0.2.1 d_WS_other_6 rfl (lv_at hl 0 rfl) ?_
  refine lv_ifnonnull (tgt := 13) C0.1 C0.2.1 d_WS_other_7 (by decide) ?_
  refine lv_aload_n C0.1 C0.2.1 d_WS_other_13 rfl (lv_at hl 0 rfl) ?_
  refine lv_iload_n C0.1 C0.2.1 d_WS_other_14 rfl (lv_at hl 3 rfl) ?_
  refine cR (As := [.int k]) (rest := []) C0 (c_FW_pipeAt (23 + (rest.length + (3 * i + 2))) (23 + (rest.length + (3 * i + 0))) oa pa ta pl.length (fun j => nI (pl.getD j 0)) (nI fr) (nI to0) (lN lit) k (wW_w2 hx) (wW_w0 hx) (by omega)) (q_WS_86 C0.2.2.2.2.1 rfl rfl ⟨Nat.le_of_ble_eq_true rfl, Nat.le_of_ble_eq_true rfl⟩) (ci := 4) (q0 := 23 + (rest.length + (3 * i + 2))) rfl rfl (wW_w2 hx) hP hl.1 rfl rfl (Nat.le_of_ble_eq_true rfl) d_WS_other_15 ⟨Nat.zero_le _, Nat.zero_le _⟩ ?_
  refine W.eq (g2 := F0 m 18 ls [.int (pAt pl.length (fun j => nI (pl.getD j 0)) k)]) rfl ?_
  rw [pAt_n hk0]
  refine lv_istore (lv' := [(4, .int (-1)), (3, .ref oa), (0, .ref (a 0)), (1, .int (nI i)), (2, .int k)]) C0.1 C0.2.1 d_WS_other_18 hl (by decide) rfl (fun ls hl => ?_)
  refine lv_iload C0.1 C0.2.1 d_WS_other_20 (lv_at hl 0 rfl) ?_
  refine lv_iconst (v := -1) C0.1 C0.2.1 d_WS_other_22 (by decide) ?_
  refine lv_icmp_ne (tgt := 28) C0.1 C0.2.1 d_WS_other_23 (by decide) (fun c_23 => ?_) (fun c_23 => ?_)
  · exact absurd rfl c_23
  · refine lv_iconst (v := -1) C0.1 C0.2.1 d_WS_other_26 (by decide) ?_
    exact eR_i C0 hr hlk (rfl) d_WS_other_27
set_option maxHeartbeats 4000000 in
set_option maxRecDepth 100000 in
theorem c_WS_other (i pa ta oa fr to0 lit : Nat) (pl tl : List Nat) (hi : i < L.length) (hx : L[i]? = some (pa, ta, oa, fr, to0, lit, pl, tl)) (hl1 : pl.length < 1000) (k0 : Nat) (hk1 : k0 < pl.length) (hpl : ∀ p ∈ pl, p < np) (hfr : fr < n) (hto : to0 < n) (hL : L.length ≤ 64) (hn : n ≤ 48) (hnp : np ≤ 96) (hk : ∀ j, kd j < 3) (hea : ∀ j, j < np → ea j < n) (heb : ∀ j, j < np → eb j < n) (hli : ∀ j, j < np → 1 ≤ li j ∧ li j ≤ 1000000000) : Mt l y_WS_other w_WS_other ({ frames := 4, cells := 3, slots := 100, locals := 132 }) g classes (tyL t) [.ref (a 0), .int (nI i), .int (nI k0)] (wW a t n kd em br ii oo np ea eb li rn (waL L) L.length sT sP ak ap af tt ac ct rp rt rest L) (S := ((Nat → Bool) × (Nat → Bool)) × (Nat × (Nat → Nat) × (Nat → Nat) × (Nat → Nat) × (Nat → Nat) × (Nat → Nat) × (Nat → Nat) × (Nat → Nat)) × Option Wy) (fun v z => v = some (.int (wayR L.length z.2.2)) ∧ (∀ x, x < n → z.1.1 x = shT kd br rn ea eb np x) ∧ (∀ p, p < np → z.1.2 p = (rn p || decide (p = (pl.getD k0 0)))) ∧ cLW kd ii oo np ea eb li z.1.1 z.1.2 fr to0 (z.2.2.map (fun x => (x.2.2.2.2.2.1, x.2.2.2.2.2.2.1, x.2.2.2.2.2.2.2))) ∧ ∀ x, z.2.2 = some x → x.2.2.2.1 = fr ∧ x.2.2.2.2.1 = to0) (fun z => (wW a t n kd em br ii oo np ea eb li rn (waL (if L.length < 64 then apx L z.2.2 else L)) ((if L.length < 64 then apx L z.2.2 else L).length) z.1.1 z.1.2 z.2.1.1 z.2.1.2.1 z.2.1.2.2.1 z.2.1.2.2.2.1 z.2.1.2.2.2.2.1 z.2.1.2.2.2.2.2.1 z.2.1.2.2.2.2.2.2.1 z.2.1.2.2.2.2.2.2.2 rest (if L.length < 64 then apx L z.2.2 else L))) 3 100 := by
  refine Mt.of (cc := b_WS_other) (maxL := 5) (ret := (some .int)) (own := R_WS) (by decide) rfl rfl (Nat.le_of_ble_eq_true rfl) ?_
  intro p e s m args below meth c C0 hr hlk hin A hA hB ls hl
  have hl : lv_has ls 5 [(0, .ref (a 0)), (1, .int (nI i)), (2, .int (nI k0))] := hl
  refine lv_aload_n C0.1 C0.2.1 d_WS_other_0 rfl (lv_at hl 0 rfl) ?_
  refine lv_iload_n C0.1 C0.2.1 d_WS_other_1 rfl (lv_at hl 1 rfl) ?_
  refine cR (As := [.int (nI i)]) (rest := []) C0 (c_WS_wayNumbered i oa hL hi (waL_at hx)) (q_WS_82 C0.2.2.2.2.1 rfl rfl ⟨Nat.le_of_ble_eq_true rfl, Nat.le_of_ble_eq_true rfl⟩) (ci := 0) (q0 := 0) rfl rfl rfl hB.1 hl.1 rfl rfl (Nat.le_of_ble_eq_true rfl) d_WS_other_2 ⟨Nat.zero_le _, Nat.zero_le _⟩ ?_
  refine W.eq (g2 := F0 m 5 ls [.ref oa]) rfl ?_
  refine lv_astore_n (lv' := [(3, .ref oa), (0, .ref (a 0)), (1, .int (nI i)), (2, .int (nI k0))]) C0.1 C0.2.1 d_WS_other_5 rfl hl (by decide) rfl (fun ls hl => ?_)
  refine lv_aload_n C0.1 C0.2.1 d_WS_other_6 rfl (lv_at hl 0 rfl) ?_
  refine lv_ifnonnull (tgt := 13) C0.1 C0.2.1 d_WS_other_7 (by decide) ?_
  refine lv_aload_n C0.1 C0.2.1 d_WS_other_13 rfl (lv_at hl 0 rfl) ?_
  refine lv_iload_n C0.1 C0.2.1 d_WS_other_14 rfl (lv_at hl 3 rfl) ?_
  refine cR (As := [.int (nI k0)]) (rest := []) C0 (c_FW_pipeAt (23 + (rest.length + (3 * i + 2))) (23 + (rest.length + (3 * i + 0))) oa pa ta pl.length (fun j => nI (pl.getD j 0)) (nI fr) (nI to0) (lN lit) (nI k0) (wW_w2 hx) (wW_w0 hx) (by omega)) (q_WS_86 C0.2.2.2.2.1 rfl rfl ⟨Nat.le_of_ble_eq_true rfl, Nat.le_of_ble_eq_true rfl⟩) (ci := 4) (q0 := 23 + (rest.length + (3 * i + 2))) rfl rfl (wW_w2 hx) hB.1 hl.1 rfl rfl (Nat.le_of_ble_eq_true rfl) d_WS_other_15 ⟨Nat.zero_le _, Nat.zero_le _⟩ ?_
  refine W.eq (g2 := F0 m 18 ls [.int (pAt pl.length (fun j => nI (pl.getD j 0)) (nI k0))]) rfl ?_
  rw [pAt_j hk1 (by omega)]
  refine lv_istore (lv' := [(4, .int (nI (pl.getD k0 0))), (3, .ref oa), (0, .ref (a 0)), (1, .int (nI i)), (2, .int (nI k0))]) C0.1 C0.2.1 d_WS_other_18 hl (by decide) rfl (fun ls hl => ?_)
  refine lv_iload C0.1 C0.2.1 d_WS_other_20 (lv_at hl 0 rfl) ?_
  refine lv_iconst (v := -1) C0.1 C0.2.1 d_WS_other_22 (by decide) ?_
  refine lv_icmp_ne (tgt := 28) C0.1 C0.2.1 d_WS_other_23 (by decide) (fun c_23 => ?_) (fun c_23 => ?_)
  · refine lv_aload_n C0.1 C0.2.1 d_WS_other_28 rfl (lv_at hl 2 rfl) ?_
    refine gf_WS_28 C0 hB.1 0 rfl rfl d_WS_other_29 ?_
    refine cM (As := []) (rest := []) C0 (c_SE_openAll hn hnp hk hea heb) (q_WS_71 C0.2.2.2.2.1 rfl rfl ⟨Nat.le_of_ble_eq_true rfl, Nat.le_of_ble_eq_true rfl⟩) (ci := 3) (q0 := 3) rfl rfl rfl hB hl.1 rfl rfl (Nat.le_of_ble_eq_true rfl) d_WS_other_32 ⟨Nat.zero_le _, Nat.zero_le _⟩ (fun v_32 u_32 H locs hp_32 hB => ?_)
    obtain ⟨s1, s2⟩ := u_32
    obtain ⟨rfl, hs1, hs2⟩ := hp_32
    have hB : wB g classes A s.heap (wW a t n kd em br ii oo np ea eb li rn (waL L) L.length s1 s2 ak ap af tt ac ct rp rt rest L) H locs := hB
    refine W.eq (g2 := F0 m 35 ls []) rfl ?_
    refine lv_aload_n C0.1 C0.2.1 d_WS_other_35 rfl (lv_at hl 2 rfl) ?_
    refine gf_WS_28 C0 hB.1 0 rfl rfl d_WS_other_36 ?_
    refine lv_iload C0.1 C0.2.1 d_WS_other_39 (lv_at hl 0 rfl) ?_
    refine cM (As := [.int (nI (pl.getD k0 0))]) (rest := []) C0 (c_SE_shutPipe (pl.getD k0 0) (hpl _ (gD_mem hk1)) hnp) (q_WS_103 C0.2.2.2.2.1 rfl rfl ⟨Nat.le_of_ble_eq_true rfl, Nat.le_of_ble_eq_true rfl⟩) (ci := 3) (q0 := 3) rfl rfl rfl hB hl.1 rfl rfl (Nat.le_of_ble_eq_true rfl) d_WS_other_41 ⟨Nat.zero_le _, Nat.zero_le _⟩ (fun v_41 u_41 H locs hp_41 hB => ?_)
    obtain rfl := hp_41
    have hB : wB g classes A s.heap (wW a t n kd em br ii oo np ea eb li rn (waL L) L.length s1 (va_up s2 (pl.getD k0 0) true) ak ap af tt ac ct rp rt rest L) H locs := hB
    refine W.eq (g2 := F0 m 44 ls []) rfl ?_
    refine lv_aload_n C0.1 C0.2.1 d_WS_other_44 rfl (lv_at hl 2 rfl) ?_
    refine lv_aload_n C0.1 C0.2.1 d_WS_other_45 rfl (lv_at hl 2 rfl) ?_
    refine gf_WS_28 C0 hB.1 0 rfl rfl d_WS_other_46 ?_
    refine lv_aload_n C0.1 C0.2.1 d_WS_other_49 rfl (lv_at hl 1 rfl) ?_
    refine gf_WS_107 C0 hB.1 (23 + (rest.length + (3 * i + 2))) (wW_w2 hx) rfl d_WS_other_50 ?_
    refine lv_aload_n C0.1 C0.2.1 d_WS_other_53 rfl (lv_at hl 1 rfl) ?_
    refine gf_WS_110 C0 hB.1 (23 + (rest.length + (3 * i + 2))) (wW_w2 hx) rfl d_WS_other_54 ?_
    refine cM (As := [.int (nI fr), .int (nI to0)]) (rest := [.ref (a 0)]) C0 (c_SE_leastWay fr to0 (by omega) (by omega) hn hnp hk hea heb hli) (q_WS_74 C0.2.2.2.2.1 rfl rfl ⟨Nat.le_of_ble_eq_true rfl, Nat.le_of_ble_eq_true rfl⟩) (ci := 3) (q0 := 3) rfl rfl rfl hB hl.1 rfl rfl (Nat.le_of_ble_eq_true rfl) d_WS_other_57 ⟨Nat.le_of_ble_eq_true rfl, Nat.le_of_ble_eq_true rfl⟩ (fun v_57 u_57 H locs hp_57 hB => ?_)
    obtain ⟨⟨k1, p1, f1, t1, c1, d1, r1, q1⟩, ox⟩ := u_57
    obtain ⟨rfl, hw1, hw2⟩ := hp_57
    have hB : wB g classes A s.heap (wW a t n kd em br ii oo np ea eb li rn (waL L) L.length s1 (va_up s2 (pl.getD k0 0) true) k1 p1 f1 t1 c1 d1 r1 q1 rest (apx L ox)) H locs := hB
    refine W.eq (g2 := F0 m 60 ls [va_rf (Option.map (fun x => x.2.2.1) ox), .ref (a 0)]) rfl ?_
    cases ox with
    | none =>
      have hB : wB g classes A s.heap (wW a t n kd em br ii oo np ea eb li rn (waL L) L.length s1 (va_up s2 (pl.getD k0 0) true) k1 p1 f1 t1 c1 d1 r1 q1 rest L) H locs := hB
      refine W.eq (g2 := F0 m 60 ls [.null, .ref (a 0)]) rfl ?_
      refine cR (As := [.null]) (rest := []) C0 (c_WS_keep_null) (q_WS_78 C0.2.2.2.2.1 rfl rfl ⟨Nat.le_of_ble_eq_true rfl, Nat.le_of_ble_eq_true rfl⟩) (ci := 0) (q0 := 0) rfl rfl rfl hB.1 hl.1 rfl rfl (Nat.le_of_ble_eq_true rfl) d_WS_other_60 ⟨Nat.le_of_ble_eq_true rfl, Nat.le_of_ble_eq_true rfl⟩ ?_
      refine W.eq (g2 := F0 m 63 ls [.int (-1)]) rfl ?_
      exact eM_i C0 hr hlk ((s1, (va_up s2 (pl.getD k0 0) true)), (k1, p1, f1, t1, c1, d1, r1, q1), none) (show wB g classes A s.heap (wW a t n kd em br ii oo np ea eb li rn (waL (if L.length < 64 then apx L none else L)) ((if L.length < 64 then apx L none else L).length) s1 (va_up s2 (pl.getD k0 0) true) k1 p1 f1 t1 c1 d1 r1 q1 rest (if L.length < 64 then apx L none else L)) H locs by rw [show ((if L.length < 64 then apx L none else L) : List Wy) = L by simp [apx]]; exact hB) ⟨rfl, hs1, ot_p hs2, hw1, hw2⟩ (Nat.le_of_ble_eq_true rfl) (Nat.le_of_ble_eq_true rfl) d_WS_other_63
    | some x =>
      obtain ⟨pa_, ta_, oa_, fr_, to0_, lit_, pl_, tl_⟩ := x
      have hB : wB g classes A s.heap (wW a t n kd em br ii oo np ea eb li rn (waL L) L.length s1 (va_up s2 (pl.getD k0 0) true) k1 p1 f1 t1 c1 d1 r1 q1 rest (L ++ [(pa_, ta_, oa_, fr_, to0_, lit_, pl_, tl_)])) H locs := hB
      refine W.eq (g2 := F0 m 60 ls [.ref oa_, .ref (a 0)]) rfl ?_
      by_cases h64 : L.length < 64
      · refine cM (As := [.ref oa_]) (rest := []) C0 (c_WS_keep L.length pa_ ta_ oa_ fr_ to0_ lit_ pl_ tl_ (by simp) h64) (q_WS_78 C0.2.2.2.2.1 rfl rfl ⟨Nat.le_of_ble_eq_true rfl, Nat.le_of_ble_eq_true rfl⟩) (ci := 0) (q0 := 0) rfl rfl rfl hB hl.1 rfl rfl (Nat.le_of_ble_eq_true rfl) d_WS_other_60 ⟨Nat.le_of_ble_eq_true rfl, Nat.le_of_ble_eq_true rfl⟩ (fun v_60 u_60 H locs hp_60 hB => ?_)
        obtain rfl := hp_60
        have hB : wB g classes A s.heap (wW a t n kd em br ii oo np ea eb li rn (va_up (waL L) L.length (some oa_)) (L.length + 1) s1 (va_up s2 (pl.getD k0 0) true) k1 p1 f1 t1 c1 d1 r1 q1 rest (L ++ [(pa_, ta_, oa_, fr_, to0_, lit_, pl_, tl_)])) H locs := hB
        refine W.eq (g2 := F0 m 63 ls [.int (nI L.length)]) rfl ?_
        exact eM_i C0 hr hlk ((s1, (va_up s2 (pl.getD k0 0) true)), (k1, p1, f1, t1, c1, d1, r1, q1), some (pa_, ta_, oa_, fr_, to0_, lit_, pl_, tl_)) (show wB g classes A s.heap (wW a t n kd em br ii oo np ea eb li rn (waL (if L.length < 64 then apx L (some (pa_, ta_, oa_, fr_, to0_, lit_, pl_, tl_)) else L)) ((if L.length < 64 then apx L (some (pa_, ta_, oa_, fr_, to0_, lit_, pl_, tl_)) else L).length) s1 (va_up s2 (pl.getD k0 0) true) k1 p1 f1 t1 c1 d1 r1 q1 rest (if L.length < 64 then apx L (some (pa_, ta_, oa_, fr_, to0_, lit_, pl_, tl_)) else L)) H locs by rw [show ((if L.length < 64 then apx L (some (pa_, ta_, oa_, fr_, to0_, lit_, pl_, tl_)) else L) : List Wy) = L ++ [(pa_, ta_, oa_, fr_, to0_, lit_, pl_, tl_)] by rw [if_pos h64]; rfl, List.length_append]; rw [← waL_push (x := (pa_, ta_, oa_, fr_, to0_, lit_, pl_, tl_))]; exact hB) ⟨by rw [show wayR L.length (some (pa_, ta_, oa_, fr_, to0_, lit_, pl_, tl_)) = nI L.length from if_pos h64], hs1, ot_p hs2, hw1, hw2⟩ (Nat.le_of_ble_eq_true rfl) (Nat.le_of_ble_eq_true rfl) d_WS_other_63
      · refine cR (As := [.ref oa_]) (rest := []) C0 (c_WS_keep_full oa_ (by omega)) (q_WS_78 C0.2.2.2.2.1 rfl rfl ⟨Nat.le_of_ble_eq_true rfl, Nat.le_of_ble_eq_true rfl⟩) (ci := 0) (q0 := 0) rfl rfl rfl hB.1 hl.1 rfl rfl (Nat.le_of_ble_eq_true rfl) d_WS_other_60 ⟨Nat.le_of_ble_eq_true rfl, Nat.le_of_ble_eq_true rfl⟩ ?_
        refine W.eq (g2 := F0 m 63 ls [.int (-5)]) rfl ?_
        exact eM_i C0 hr hlk ((s1, (va_up s2 (pl.getD k0 0) true)), (k1, p1, f1, t1, c1, d1, r1, q1), some (pa_, ta_, oa_, fr_, to0_, lit_, pl_, tl_)) (show wB g classes A s.heap (wW a t n kd em br ii oo np ea eb li rn (waL (if L.length < 64 then apx L (some (pa_, ta_, oa_, fr_, to0_, lit_, pl_, tl_)) else L)) ((if L.length < 64 then apx L (some (pa_, ta_, oa_, fr_, to0_, lit_, pl_, tl_)) else L).length) s1 (va_up s2 (pl.getD k0 0) true) k1 p1 f1 t1 c1 d1 r1 q1 rest (if L.length < 64 then apx L (some (pa_, ta_, oa_, fr_, to0_, lit_, pl_, tl_)) else L)) H locs by rw [show ((if L.length < 64 then apx L (some (pa_, ta_, oa_, fr_, to0_, lit_, pl_, tl_)) else L) : List Wy) = L from if_neg h64]; exact hB.pop) ⟨by rw [show wayR L.length (some (pa_, ta_, oa_, fr_, to0_, lit_, pl_, tl_)) = -5 from if_neg h64], hs1, ot_p hs2, hw1, hw2⟩ (Nat.le_of_ble_eq_true rfl) (Nat.le_of_ble_eq_true rfl) d_WS_other_63
  · exact absurd c_23 (nI_m1 (by have := hpl _ (gD_mem hk1); omega))
set_option maxHeartbeats 4000000 in
set_option maxRecDepth 100000 in
theorem c_WS_two_no (x y z w0 : Int32) (hn : n ≤ 48) (hk : ∀ j, kd j < 3) (hno : ¬ ref2 n kd em x y z w0 = 0) : Rd l y_WS_two w_WS_two ({ frames := 4, cells := 0, slots := 0, locals := 132 }) g classes (tyL t) [.ref (a 0), .int x, .int y, .int z, .int w0] (wW a t n kd em br ii oo np ea eb li rn wa wn sT sP ak ap af tt ac ct rp rt rest L) (some (.int (ref2 n kd em x y z w0))) := by
  refine Rd.of (cc := b_WS_two) (maxL := 8) (ret := (some .int)) (own := R_WS) (by decide) rfl rfl (Nat.le_of_ble_eq_true rfl) ?_
  intro p e s m args below meth c C0 hr hlk hP ls hl
  have hl : lv_has ls 8 [(0, .ref (a 0)), (1, .int x), (2, .int y), (3, .int z), (4, .int w0)] := hl
  refine lv_aload_n C0.1 C0.2.1 d_WS_two_0 rfl (lv_at hl 0 rfl) ?_
  refine lv_iload_n C0.1 C0.2.1 d_WS_two_1 rfl (lv_at hl 1 rfl) ?_
  refine lv_iload_n C0.1 C0.2.1 d_WS_two_2 rfl (lv_at hl 2 rfl) ?_
  refine cR (As := [.int x, .int y]) (rest := []) C0 (c_WS_refusalOfEnds x y hn hk) (q_WS_67 C0.2.2.2.2.1 rfl rfl ⟨Nat.le_of_ble_eq_true rfl, Nat.le_of_ble_eq_true rfl⟩) (ci := 0) (q0 := 0) rfl rfl rfl hP hl.1 rfl rfl (Nat.le_of_ble_eq_true rfl) d_WS_two_3 ⟨Nat.zero_le _, Nat.zero_le _⟩ ?_
  refine W.eq (g2 := F0 m 6 ls [.int (refC n kd em x y)]) rfl ?_
  refine lv_istore (lv' := [(5, .int (refC n kd em x y)), (0, .ref (a 0)), (1, .int x), (2, .int y), (3, .int z), (4, .int w0)]) C0.1 C0.2.1 d_WS_two_6 hl (by decide) rfl (fun ls hl => ?_)
  refine lv_iload C0.1 C0.2.1 d_WS_two_8 (lv_at hl 0 rfl) ?_
  refine lv_if_ne (tgt := 22) C0.1 C0.2.1 d_WS_two_10 (by decide) (fun c_10 => ?_) (fun c_10 => ?_)
  · refine lv_iload C0.1 C0.2.1 d_WS_two_22 (lv_at hl 0 rfl) ?_
    refine lv_if_eq (tgt := 30) C0.1 C0.2.1 d_WS_two_24 (by decide) (fun c_24 => ?_) (fun c_24 => ?_)
    · exact absurd (by unfold ref2; first | (rw [if_pos c_10]; exact c_24) | exact absurd c_24 c_10) hno
    · refine lv_iload C0.1 C0.2.1 d_WS_two_27 (lv_at hl 0 rfl) ?_
      exact eR_i C0 hr hlk (by unfold ref2; first | rw [if_pos c_10] | rw [if_neg c_10]) d_WS_two_29
  · refine lv_aload_n C0.1 C0.2.1 d_WS_two_13 rfl (lv_at hl 1 rfl) ?_
    refine lv_iload_n C0.1 C0.2.1 d_WS_two_14 rfl (lv_at hl 4 rfl) ?_
    refine lv_iload C0.1 C0.2.1 d_WS_two_15 (lv_at hl 5 rfl) ?_
    refine cR (As := [.int z, .int w0]) (rest := []) C0 (c_WS_refusalOfEnds z w0 hn hk) (q_WS_67 C0.2.2.2.2.1 rfl rfl ⟨Nat.le_of_ble_eq_true rfl, Nat.le_of_ble_eq_true rfl⟩) (ci := 0) (q0 := 0) rfl rfl rfl hP hl.1 rfl rfl (Nat.le_of_ble_eq_true rfl) d_WS_two_17 ⟨Nat.zero_le _, Nat.zero_le _⟩ ?_
    refine W.eq (g2 := F0 m 20 ls [.int (refC n kd em z w0)]) rfl ?_
    refine lv_istore (lv' := [(5, .int (refC n kd em z w0)), (0, .ref (a 0)), (1, .int x), (2, .int y), (3, .int z), (4, .int w0)]) C0.1 C0.2.1 d_WS_two_20 hl (by decide) rfl (fun ls hl => ?_)
    refine lv_iload C0.1 C0.2.1 d_WS_two_22 (lv_at hl 0 rfl) ?_
    refine lv_if_eq (tgt := 30) C0.1 C0.2.1 d_WS_two_24 (by decide) (fun c_24 => ?_) (fun c_24 => ?_)
    · exact absurd (by unfold ref2; first | (rw [if_pos c_10]; exact c_24) | exact absurd c_24 c_10) hno
    · refine lv_iload C0.1 C0.2.1 d_WS_two_27 (lv_at hl 0 rfl) ?_
      exact eR_i C0 hr hlk (by unfold ref2; first | rw [if_pos c_10] | rw [if_neg c_10]) d_WS_two_29
set_option maxHeartbeats 4000000 in
set_option maxRecDepth 100000 in
theorem c_WS_two (u0 e0 u1 e1 : Nat) (hu0 : u0 < n) (he0 : e0 < n) (hu1 : u1 < n) (he1 : e1 < n) (hok : refC n kd em (nI u0) (nI e0) = 0) (hok2 : refC n kd em (nI u1) (nI e1) = 0) (hL : L.length ≤ 64) (hn : n ≤ 48) (hnp : np ≤ 96) (hk : ∀ j, kd j < 3) (hea : ∀ j, j < np → ea j < n) (heb : ∀ j, j < np → eb j < n) (hli : ∀ j, j < np → 1 ≤ li j ∧ li j ≤ 1000000000) : Mt l y_WS_two w_WS_two ({ frames := 4, cells := 6, slots := 200, locals := 132 }) g classes (tyL t) [.ref (a 0), .int (nI u0), .int (nI e0), .int (nI u1), .int (nI e1)] (wW a t n kd em br ii oo np ea eb li rn (waL L) L.length sT sP ak ap af tt ac ct rp rt rest L) (S := ((Nat → Bool) × (Nat → Bool)) × ((Nat → Bool) × (Nat → Bool)) × (Nat × (Nat → Nat) × (Nat → Nat) × (Nat → Nat) × (Nat → Nat) × (Nat → Nat) × (Nat → Nat) × (Nat → Nat)) × Option Wy × Option Wy) (fun v z => v = some (.int (twoR L.length z.2.2.2.1 z.2.2.2.2)) ∧ (∀ x, x < n → z.1.1 x = shT kd br rn ea eb np x) ∧ (∀ p, p < np → z.1.2 p = rn p) ∧ cLW kd ii oo np ea eb li z.1.1 z.1.2 u0 e0 (z.2.2.2.1.map (fun x => (x.2.2.2.2.2.1, x.2.2.2.2.2.2.1, x.2.2.2.2.2.2.2))) ∧ (∀ x, z.2.2.2.1 = some x → x.2.2.2.1 = u0 ∧ x.2.2.2.2.1 = e0) ∧ ∀ x, z.2.2.2.1 = some x → ((∀ v, z.2.1.1 v = (z.1.1 v || decide (v ∈ x.2.2.2.2.2.2.2 ∧ kd v ≠ 0))) ∧ (∀ p, z.2.1.2 p = (z.1.2 p || decide (p ∈ x.2.2.2.2.2.2.1))) ∧ cLW kd ii oo np ea eb li z.2.1.1 z.2.1.2 u1 e1 (z.2.2.2.2.map (fun x => (x.2.2.2.2.2.1, x.2.2.2.2.2.2.1, x.2.2.2.2.2.2.2))) ∧ ∀ y, z.2.2.2.2 = some y → y.2.2.2.1 = u1 ∧ y.2.2.2.2.1 = e1)) (fun z => (wW a t n kd em br ii oo np ea eb li rn (waL (twoL L z.2.2.2.1 z.2.2.2.2)) ((twoL L z.2.2.2.1 z.2.2.2.2).length) z.2.1.1 z.2.1.2 z.2.2.1.1 z.2.2.1.2.1 z.2.2.1.2.2.1 z.2.2.1.2.2.2.1 z.2.2.1.2.2.2.2.1 z.2.2.1.2.2.2.2.2.1 z.2.2.1.2.2.2.2.2.2.1 z.2.2.1.2.2.2.2.2.2.2 rest (twoL L z.2.2.2.1 z.2.2.2.2))) 6 200 := by
  refine Mt.of (cc := b_WS_two) (maxL := 8) (ret := (some .int)) (own := R_WS) (by decide) rfl rfl (Nat.le_of_ble_eq_true rfl) ?_
  intro p e s m args below meth c C0 hr hlk hin A hA hB ls hl
  have hl : lv_has ls 8 [(0, .ref (a 0)), (1, .int (nI u0)), (2, .int (nI e0)), (3, .int (nI u1)), (4, .int (nI e1))] := hl
  refine lv_aload_n C0.1 C0.2.1 d_WS_two_0 rfl (lv_at hl 0 rfl) ?_
  refine lv_iload_n C0.1 C0.2.1 d_WS_two_1 rfl (lv_at hl 1 rfl) ?_
  refine lv_iload_n C0.1 C0.2.1 d_WS_two_2 rfl (lv_at hl 2 rfl) ?_
  refine cR (As := [.int (nI u0), .int (nI e0)]) (rest := []) C0 (c_WS_refusalOfEnds (nI u0) (nI e0) hn hk) (q_WS_67 C0.2.2.2.2.1 rfl rfl ⟨Nat.le_of_ble_eq_true rfl, Nat.le_of_ble_eq_true rfl⟩) (ci := 0) (q0 := 0) rfl rfl rfl hB.1 hl.1 rfl rfl (Nat.le_of_ble_eq_true rfl) d_WS_two_3 ⟨Nat.zero_le _, Nat.zero_le _⟩ ?_
  refine W.eq (g2 := F0 m 6 ls [.int (refC n kd em (nI u0) (nI e0))]) rfl ?_
  refine lv_istore (lv' := [(5, .int (refC n kd em (nI u0) (nI e0))), (0, .ref (a 0)), (1, .int (nI u0)), (2, .int (nI e0)), (3, .int (nI u1)), (4, .int (nI e1))]) C0.1 C0.2.1 d_WS_two_6 hl (by decide) rfl (fun ls hl => ?_)
  refine lv_iload C0.1 C0.2.1 d_WS_two_8 (lv_at hl 0 rfl) ?_
  refine lv_if_ne (tgt := 22) C0.1 C0.2.1 d_WS_two_10 (by decide) (fun c_10 => ?_) (fun c_10 => ?_)
  · exact absurd hok c_10
  · refine lv_aload_n C0.1 C0.2.1 d_WS_two_13 rfl (lv_at hl 1 rfl) ?_
    refine lv_iload_n C0.1 C0.2.1 d_WS_two_14 rfl (lv_at hl 4 rfl) ?_
    refine lv_iload C0.1 C0.2.1 d_WS_two_15 (lv_at hl 5 rfl) ?_
    refine cR (As := [.int (nI u1), .int (nI e1)]) (rest := []) C0 (c_WS_refusalOfEnds (nI u1) (nI e1) hn hk) (q_WS_67 C0.2.2.2.2.1 rfl rfl ⟨Nat.le_of_ble_eq_true rfl, Nat.le_of_ble_eq_true rfl⟩) (ci := 0) (q0 := 0) rfl rfl rfl hB.1 hl.1 rfl rfl (Nat.le_of_ble_eq_true rfl) d_WS_two_17 ⟨Nat.zero_le _, Nat.zero_le _⟩ ?_
    refine W.eq (g2 := F0 m 20 ls [.int (refC n kd em (nI u1) (nI e1))]) rfl ?_
    refine lv_istore (lv' := [(5, .int (refC n kd em (nI u1) (nI e1))), (0, .ref (a 0)), (1, .int (nI u0)), (2, .int (nI e0)), (3, .int (nI u1)), (4, .int (nI e1))]) C0.1 C0.2.1 d_WS_two_20 hl (by decide) rfl (fun ls hl => ?_)
    refine lv_iload C0.1 C0.2.1 d_WS_two_22 (lv_at hl 0 rfl) ?_
    refine lv_if_eq (tgt := 30) C0.1 C0.2.1 d_WS_two_24 (by decide) (fun c_24 => ?_) (fun c_24 => ?_)
    · refine lv_aload_n C0.1 C0.2.1 d_WS_two_30 rfl (lv_at hl 1 rfl) ?_
      refine gf_WS_28 C0 hB.1 0 rfl rfl d_WS_two_31 ?_
      refine cM (As := []) (rest := []) C0 (c_SE_openAll hn hnp hk hea heb) (q_WS_71 C0.2.2.2.2.1 rfl rfl ⟨Nat.le_of_ble_eq_true rfl, Nat.le_of_ble_eq_true rfl⟩) (ci := 3) (q0 := 3) rfl rfl rfl hB hl.1 rfl rfl (Nat.le_of_ble_eq_true rfl) d_WS_two_34 ⟨Nat.zero_le _, Nat.zero_le _⟩ (fun v_34 u_34 H locs hp_34 hB => ?_)
      obtain ⟨s1, s2⟩ := u_34
      obtain ⟨rfl, hs1, hs2⟩ := hp_34
      have hB : wB g classes A s.heap (wW a t n kd em br ii oo np ea eb li rn (waL L) L.length s1 s2 ak ap af tt ac ct rp rt rest L) H locs := hB
      refine W.eq (g2 := F0 m 37 ls []) rfl ?_
      refine lv_aload_n C0.1 C0.2.1 d_WS_two_37 rfl (lv_at hl 1 rfl) ?_
      refine gf_WS_28 C0 hB.1 0 rfl rfl d_WS_two_38 ?_
      refine lv_iload_n C0.1 C0.2.1 d_WS_two_41 rfl (lv_at hl 2 rfl) ?_
      refine lv_iload_n C0.1 C0.2.1 d_WS_two_42 rfl (lv_at hl 3 rfl) ?_
      refine cM (As := [.int (nI u0), .int (nI e0)]) (rest := []) C0 (c_SE_leastWay u0 e0 (by omega) (by omega) hn hnp hk hea heb hli) (q_WS_74 C0.2.2.2.2.1 rfl rfl ⟨Nat.le_of_ble_eq_true rfl, Nat.le_of_ble_eq_true rfl⟩) (ci := 3) (q0 := 3) rfl rfl rfl hB hl.1 rfl rfl (Nat.le_of_ble_eq_true rfl) d_WS_two_43 ⟨Nat.le_of_ble_eq_true rfl, Nat.le_of_ble_eq_true rfl⟩ (fun v_43 u_43 H locs hp_43 hB => ?_)
      obtain ⟨⟨k1, p1, f1, t1, c1, d1, r1, q1⟩, ox⟩ := u_43
      obtain ⟨rfl, hw1, hw2⟩ := hp_43
      have hB : wB g classes A s.heap (wW a t n kd em br ii oo np ea eb li rn (waL L) L.length s1 s2 k1 p1 f1 t1 c1 d1 r1 q1 rest (apx L ox)) H locs := hB
      refine W.eq (g2 := F0 m 46 ls [va_rf (Option.map (fun x => x.2.2.1) ox)]) rfl ?_
      cases ox with
      | none =>
        have hB : wB g classes A s.heap (wW a t n kd em br ii oo np ea eb li rn (waL L) L.length s1 s2 k1 p1 f1 t1 c1 d1 r1 q1 rest L) H locs := hB
        refine W.eq (g2 := F0 m 46 ls [.null]) rfl ?_
        refine lv_astoreN (lv' := [(6, .null), (5, .int (refC n kd em (nI u1) (nI e1))), (0, .ref (a 0)), (1, .int (nI u0)), (2, .int (nI e0)), (3, .int (nI u1)), (4, .int (nI e1))]) C0.1 C0.2.1 d_WS_two_46 hl (by decide) rfl (fun ls hl => ?_)
        refine lv_aloadN C0.1 C0.2.1 d_WS_two_48 (lv_at hl 0 rfl) ?_
        refine lv_ifnonnullN C0.1 C0.2.1 d_WS_two_50 ?_
        refine lv_iconst (v := -1) C0.1 C0.2.1 d_WS_two_53 (by decide) ?_
        exact eM_i C0 hr hlk ((s1, s2), (s1, s2), (k1, p1, f1, t1, c1, d1, r1, q1), none, none) (show wB g classes A s.heap (wW a t n kd em br ii oo np ea eb li rn (waL L) L.length s1 s2 k1 p1 f1 t1 c1 d1 r1 q1 rest L) H locs from hB) ⟨rfl, hs1, hs2, hw1, (fun x h => by cases h), fun x h => by cases h⟩ (Nat.le_of_ble_eq_true rfl) (Nat.le_of_ble_eq_true rfl) d_WS_two_54
      | some x =>
        obtain ⟨pa1, ta1, oa1, fr1, to1, lit1, pl1, tl1⟩ := x
        have hB : wB g classes A s.heap (wW a t n kd em br ii oo np ea eb li rn (waL L) L.length s1 s2 k1 p1 f1 t1 c1 d1 r1 q1 rest (L ++ [(pa1, ta1, oa1, fr1, to1, lit1, pl1, tl1)])) H locs := hB
        refine W.eq (g2 := F0 m 46 ls [.ref oa1]) rfl ?_
        obtain ⟨y1, y2, y3, y4⟩ := cLW_ok hw1 hu0 hea heb
        have y3 : pl1.length < 48 := y3
        have y4 : tl1.length = pl1.length + 1 := y4
        refine lv_astore (lv' := [(6, .ref oa1), (5, .int (refC n kd em (nI u1) (nI e1))), (0, .ref (a 0)), (1, .int (nI u0)), (2, .int (nI e0)), (3, .int (nI u1)), (4, .int (nI e1))]) C0.1 C0.2.1 d_WS_two_46 hl (by decide) rfl (fun ls hl => ?_)
        refine lv_aload C0.1 C0.2.1 d_WS_two_48 (lv_at hl 0 rfl) ?_
        refine lv_ifnonnull (tgt := 55) C0.1 C0.2.1 d_WS_two_50 (by decide) ?_
        refine lv_aload_n C0.1 C0.2.1 d_WS_two_55 rfl (lv_at hl 2 rfl) ?_
        refine gf_WS_28 C0 hB.1 0 rfl rfl d_WS_two_56 ?_
        refine lv_aload C0.1 C0.2.1 d_WS_two_59 (lv_at hl 0 rfl) ?_
        refine cM (As := [.ref oa1]) (rest := []) C0 (c_SE_shutWay L.length pa1 ta1 oa1 fr1 to1 lit1 pl1 tl1 (by simp) y1 y2 (by omega) (by omega) hn hnp hk) (q_WS_113 C0.2.2.2.2.1 rfl rfl ⟨Nat.le_of_ble_eq_true rfl, Nat.le_of_ble_eq_true rfl⟩) (ci := 3) (q0 := 3) rfl rfl rfl hB hl.1 rfl rfl (Nat.le_of_ble_eq_true rfl) d_WS_two_61 ⟨Nat.le_of_ble_eq_true rfl, Nat.le_of_ble_eq_true rfl⟩ (fun v_61 u_61 H locs hp_61 hB => ?_)
        obtain ⟨s3, s4⟩ := u_61
        obtain ⟨rfl, hs3, hs4⟩ := hp_61
        have hB : wB g classes A s.heap (wW a t n kd em br ii oo np ea eb li rn (waL L) L.length s3 s4 k1 p1 f1 t1 c1 d1 r1 q1 rest (L ++ [(pa1, ta1, oa1, fr1, to1, lit1, pl1, tl1)])) H locs := hB
        refine W.eq (g2 := F0 m 64 ls []) rfl ?_
        refine lv_aload_n C0.1 C0.2.1 d_WS_two_64 rfl (lv_at hl 2 rfl) ?_
        refine gf_WS_28 C0 hB.1 0 rfl rfl d_WS_two_65 ?_
        refine lv_iload_n C0.1 C0.2.1 d_WS_two_68 rfl (lv_at hl 5 rfl) ?_
        refine lv_iload C0.1 C0.2.1 d_WS_two_69 (lv_at hl 6 rfl) ?_
        refine cM (As := [.int (nI u1), .int (nI e1)]) (rest := []) C0 (c_SE_leastWay u1 e1 (by omega) (by omega) hn hnp hk hea heb hli) (q_WS_74 C0.2.2.2.2.1 rfl rfl ⟨Nat.le_of_ble_eq_true rfl, Nat.le_of_ble_eq_true rfl⟩) (ci := 3) (q0 := 3) rfl rfl rfl hB hl.1 rfl rfl (Nat.le_of_ble_eq_true rfl) d_WS_two_71 ⟨Nat.le_of_ble_eq_true rfl, Nat.le_of_ble_eq_true rfl⟩ (fun v_71 u_71 H locs hp_71 hB => ?_)
        obtain ⟨⟨k2, p2, f2, t2, c2, d2, r2, q2⟩, oy⟩ := u_71
        obtain ⟨rfl, hy1, hy2⟩ := hp_71
        have hB : wB g classes A s.heap (wW a t n kd em br ii oo np ea eb li rn (waL L) L.length s3 s4 k2 p2 f2 t2 c2 d2 r2 q2 rest (apx (L ++ [(pa1, ta1, oa1, fr1, to1, lit1, pl1, tl1)]) oy)) H locs := hB
        refine W.eq (g2 := F0 m 74 ls [va_rf (Option.map (fun x => x.2.2.1) oy)]) rfl ?_
        cases oy with
        | none =>
          have hB : wB g classes A s.heap (wW a t n kd em br ii oo np ea eb li rn (waL L) L.length s3 s4 k2 p2 f2 t2 c2 d2 r2 q2 rest (L ++ [(pa1, ta1, oa1, fr1, to1, lit1, pl1, tl1)])) H locs := hB
          refine W.eq (g2 := F0 m 74 ls [.null]) rfl ?_
          refine lv_astoreN (lv' := [(7, .null), (6, .ref oa1), (5, .int (refC n kd em (nI u1) (nI e1))), (0, .ref (a 0)), (1, .int (nI u0)), (2, .int (nI e0)), (3, .int (nI u1)), (4, .int (nI e1))]) C0.1 C0.2.1 d_WS_two_74 hl (by decide) rfl (fun ls hl => ?_)
          refine lv_aloadN C0.1 C0.2.1 d_WS_two_76 (lv_at hl 0 rfl) ?_
          refine lv_ifnonnullN C0.1 C0.2.1 d_WS_two_78 ?_
          refine lv_iconst (v := -1) C0.1 C0.2.1 d_WS_two_81 (by decide) ?_
          exact eM_i C0 hr hlk ((s1, s2), (s3, s4), (k2, p2, f2, t2, c2, d2, r2, q2), some (pa1, ta1, oa1, fr1, to1, lit1, pl1, tl1), none) (show wB g classes A s.heap (wW a t n kd em br ii oo np ea eb li rn (waL L) L.length s3 s4 k2 p2 f2 t2 c2 d2 r2 q2 rest L) H locs from hB.pop) ⟨rfl, hs1, hs2, hw1, hw2, fun x h => by cases h; exact ⟨hs3, hs4, hy1, hy2⟩⟩ (Nat.le_of_ble_eq_true rfl) (Nat.le_of_ble_eq_true rfl) d_WS_two_82
        | some y =>
          obtain ⟨pa2, ta2, oa2, fr2, to2, lit2, pl2, tl2⟩ := y
          have hB : wB g classes A s.heap (wW a t n kd em br ii oo np ea eb li rn (waL L) L.length s3 s4 k2 p2 f2 t2 c2 d2 r2 q2 rest ((L ++ [(pa1, ta1, oa1, fr1, to1, lit1, pl1, tl1)]) ++ [(pa2, ta2, oa2, fr2, to2, lit2, pl2, tl2)])) H locs := hB
          refine W.eq (g2 := F0 m 74 ls [.ref oa2]) rfl ?_
          refine lv_astore (lv' := [(7, .ref oa2), (6, .ref oa1), (5, .int (refC n kd em (nI u1) (nI e1))), (0, .ref (a 0)), (1, .int (nI u0)), (2, .int (nI e0)), (3, .int (nI u1)), (4, .int (nI e1))]) C0.1 C0.2.1 d_WS_two_74 hl (by decide) rfl (fun ls hl => ?_)
          refine lv_aload C0.1 C0.2.1 d_WS_two_76 (lv_at hl 0 rfl) ?_
          refine lv_ifnonnull (tgt := 83) C0.1 C0.2.1 d_WS_two_78 (by decide) ?_
          refine lv_aload_n C0.1 C0.2.1 d_WS_two_83 rfl (lv_at hl 3 rfl) ?_
          refine gf_WS_38 C0 hB.1 0 rfl rfl d_WS_two_84 ?_
          refine lv_iconst (v := nI 2) C0.1 C0.2.1 d_WS_two_87 (by decide) ?_
          refine lv_iadd C0.1 C0.2.1 d_WS_two_88 ?_
          refine ti (show (nI L.length) + (nI 2) = nI (L.length + 2) from nI_add _ _) ?_
          refine lv_bipush (v := nI 64) C0.1 C0.2.1 d_WS_two_89 (by decide) ?_
          refine lv_icmp_le (tgt := 97) C0.1 C0.2.1 d_WS_two_91 (by decide) (fun c_91 => ?_) (fun c_91 => ?_)
          · have h62 : L.length + 2 ≤ 64 := (nI_leI (by omega) (by decide)).mp c_91
            refine lv_aload_n C0.1 C0.2.1 d_WS_two_97 rfl (lv_at hl 3 rfl) ?_
            refine lv_aload C0.1 C0.2.1 d_WS_two_98 (lv_at hl 1 rfl) ?_
            refine cM (As := [.ref oa1]) (rest := []) C0 (c_WS_keep L.length pa1 ta1 oa1 fr1 to1 lit1 pl1 tl1 (by simp) (by omega)) (q_WS_78 C0.2.2.2.2.1 rfl rfl ⟨Nat.le_of_ble_eq_true rfl, Nat.le_of_ble_eq_true rfl⟩) (ci := 0) (q0 := 0) rfl rfl rfl hB hl.1 rfl rfl (Nat.le_of_ble_eq_true rfl) d_WS_two_100 ⟨Nat.le_of_ble_eq_true rfl, Nat.le_of_ble_eq_true rfl⟩ (fun v_100 u_100 H locs hp_100 hB => ?_)
            obtain rfl := hp_100
            have hB : wB g classes A s.heap (wW a t n kd em br ii oo np ea eb li rn (va_up (waL L) L.length (some oa1)) (L.length + 1) s3 s4 k2 p2 f2 t2 c2 d2 r2 q2 rest ((L ++ [(pa1, ta1, oa1, fr1, to1, lit1, pl1, tl1)]) ++ [(pa2, ta2, oa2, fr2, to2, lit2, pl2, tl2)])) H locs := hB
            refine W.eq (g2 := F0 m 103 ls [.int (nI L.length)]) rfl ?_
            refine lv_pop C0.1 C0.2.1 d_WS_two_103 rfl ?_
            refine lv_aload_n C0.1 C0.2.1 d_WS_two_104 rfl (lv_at hl 3 rfl) ?_
            refine lv_aload C0.1 C0.2.1 d_WS_two_105 (lv_at hl 0 rfl) ?_
            refine cM (As := [.ref oa2]) (rest := []) C0 (c_WS_keep (L.length + 1) pa2 ta2 oa2 fr2 to2 lit2 pl2 tl2 (by simp) (by omega)) (q_WS_78 C0.2.2.2.2.1 rfl rfl ⟨Nat.le_of_ble_eq_true rfl, Nat.le_of_ble_eq_true rfl⟩) (ci := 0) (q0 := 0) rfl rfl rfl hB hl.1 rfl rfl (Nat.le_of_ble_eq_true rfl) d_WS_two_107 ⟨Nat.le_of_ble_eq_true rfl, Nat.le_of_ble_eq_true rfl⟩ (fun v_107 u_107 H locs hp_107 hB => ?_)
            obtain rfl := hp_107
            have hB : wB g classes A s.heap (wW a t n kd em br ii oo np ea eb li rn (va_up (va_up (waL L) L.length (some oa1)) (L.length + 1) (some oa2)) (L.length + 1 + 1) s3 s4 k2 p2 f2 t2 c2 d2 r2 q2 rest ((L ++ [(pa1, ta1, oa1, fr1, to1, lit1, pl1, tl1)]) ++ [(pa2, ta2, oa2, fr2, to2, lit2, pl2, tl2)])) H locs := hB
            refine W.eq (g2 := F0 m 110 ls [.int (nI (L.length + 1))]) rfl ?_
            have eL : (L ++ [(pa1, ta1, oa1, fr1, to1, lit1, pl1, tl1)]).length = L.length + 1 := by simp
            exact eM_i C0 hr hlk ((s1, s2), (s3, s4), (k2, p2, f2, t2, c2, d2, r2, q2), some (pa1, ta1, oa1, fr1, to1, lit1, pl1, tl1), some (pa2, ta2, oa2, fr2, to2, lit2, pl2, tl2)) (show wB g classes A s.heap (wW a t n kd em br ii oo np ea eb li rn (waL (twoL L (some (pa1, ta1, oa1, fr1, to1, lit1, pl1, tl1)) (some (pa2, ta2, oa2, fr2, to2, lit2, pl2, tl2)))) ((twoL L (some (pa1, ta1, oa1, fr1, to1, lit1, pl1, tl1)) (some (pa2, ta2, oa2, fr2, to2, lit2, pl2, tl2))).length) s3 s4 k2 p2 f2 t2 c2 d2 r2 q2 rest (twoL L (some (pa1, ta1, oa1, fr1, to1, lit1, pl1, tl1)) (some (pa2, ta2, oa2, fr2, to2, lit2, pl2, tl2)))) H locs by rw [show (twoL L (some (pa1, ta1, oa1, fr1, to1, lit1, pl1, tl1)) (some (pa2, ta2, oa2, fr2, to2, lit2, pl2, tl2))) = (L ++ [(pa1, ta1, oa1, fr1, to1, lit1, pl1, tl1)]) ++ [(pa2, ta2, oa2, fr2, to2, lit2, pl2, tl2)] from if_pos h62]; rw [← waL_push (L := L ++ [(pa1, ta1, oa1, fr1, to1, lit1, pl1, tl1)]) (x := (pa2, ta2, oa2, fr2, to2, lit2, pl2, tl2)), ← waL_push (x := (pa1, ta1, oa1, fr1, to1, lit1, pl1, tl1)), List.length_append (as := L ++ [(pa1, ta1, oa1, fr1, to1, lit1, pl1, tl1)]), eL]; exact hB) ⟨by rw [show twoR L.length (some (pa1, ta1, oa1, fr1, to1, lit1, pl1, tl1)) (some (pa2, ta2, oa2, fr2, to2, lit2, pl2, tl2)) = nI (L.length + 1) from if_pos h62], hs1, hs2, hw1, hw2, fun x h => by cases h; exact ⟨hs3, hs4, hy1, hy2⟩⟩ (Nat.le_of_ble_eq_true rfl) (Nat.le_of_ble_eq_true rfl) d_WS_two_110
          · have h62 : ¬ L.length + 2 ≤ 64 := fun q => c_91 (nI_le q (by decide))
            refine lv_bipush (v := -5) C0.1 C0.2.1 d_WS_two_94 (by decide) ?_
            exact eM_i C0 hr hlk ((s1, s2), (s3, s4), (k2, p2, f2, t2, c2, d2, r2, q2), some (pa1, ta1, oa1, fr1, to1, lit1, pl1, tl1), some (pa2, ta2, oa2, fr2, to2, lit2, pl2, tl2)) (show wB g classes A s.heap (wW a t n kd em br ii oo np ea eb li rn (waL (twoL L (some (pa1, ta1, oa1, fr1, to1, lit1, pl1, tl1)) (some (pa2, ta2, oa2, fr2, to2, lit2, pl2, tl2)))) ((twoL L (some (pa1, ta1, oa1, fr1, to1, lit1, pl1, tl1)) (some (pa2, ta2, oa2, fr2, to2, lit2, pl2, tl2))).length) s3 s4 k2 p2 f2 t2 c2 d2 r2 q2 rest (twoL L (some (pa1, ta1, oa1, fr1, to1, lit1, pl1, tl1)) (some (pa2, ta2, oa2, fr2, to2, lit2, pl2, tl2)))) H locs by rw [show (twoL L (some (pa1, ta1, oa1, fr1, to1, lit1, pl1, tl1)) (some (pa2, ta2, oa2, fr2, to2, lit2, pl2, tl2))) = L from if_neg h62]; exact hB.pop.pop) ⟨by rw [show twoR L.length (some (pa1, ta1, oa1, fr1, to1, lit1, pl1, tl1)) (some (pa2, ta2, oa2, fr2, to2, lit2, pl2, tl2)) = -5 from if_neg h62], hs1, hs2, hw1, hw2, fun x h => by cases h; exact ⟨hs3, hs4, hy1, hy2⟩⟩ (Nat.le_of_ble_eq_true rfl) (Nat.le_of_ble_eq_true rfl) d_WS_two_96
    · exact absurd hok2 c_24
end CALLS5
end
section
/-- THE REFERENCE'S WORLD: 19 cells at b 0 .. b 18, then the rest -/
def mW (b : Nat → Nat) (t : Nat → ClassId) (n : Nat) (kd : Nat → Nat) (em : Nat → Bool) (br : Nat → Bool) (ii : Nat → Int32) (oo : Nat → Int32) (np : Nat) (ea : Nat → Nat) (eb : Nat → Nat) (li : Nat → Nat) (rn : Nat → Bool) (wp : Nat → Nat) (wl : Nat → Nat) (wf : Nat → Nat) (wt : Nat → Nat) (wn : Nat) (ct : Nat → Nat) (sT : Nat → Bool) (sP : Nat → Bool) (sa : Nat → Nat) (sb : Nat → Nat) (rest : va_W) : va_W := [(b 0, .inr (5, [.ref (b 1), .ref (b 2), .ref (b 3), .ref (b 4), .ref (b 5), .int (nI n), .ref (b 6), .ref (b 7), .ref (b 8), .ref (b 9), .int (nI np), .ref (b 10), .ref (b 11), .ref (b 12), .ref (b 13), .int (nI wn), .ref (b 14), .ref (b 15), .ref (b 16), .ref (b 17), .ref (b 18)])), (b 1, .inl (t 0, 48, .inl (fun j => nI (kd j)))), (b 2, .inl (t 1, 48, .inl (fun j => bI (em j)))), (b 3, .inl (t 1, 48, .inl (fun j => bI (br j)))), (b 4, .inl (t 0, 48, .inl ii)), (b 5, .inl (t 0, 48, .inl oo)), (b 6, .inl (t 0, 96, .inl (fun j => nI (ea j)))), (b 7, .inl (t 0, 96, .inl (fun j => nI (eb j)))), (b 8, .inl (t 2, 96, .inr (.inl (fun j => lN (li j))))), (b 9, .inl (t 1, 96, .inl (fun j => bI (rn j)))), (b 10, .inl (t 0, 3072, .inl (fun j => nI (wp j)))), (b 11, .inl (t 0, 64, .inl (fun j => nI (wl j)))), (b 12, .inl (t 0, 64, .inl (fun j => nI (wf j)))), (b 13, .inl (t 0, 64, .inl (fun j => nI (wt j)))), (b 14, .inl (t 2, 48, .inr (.inl (fun j => lN (ct j))))), (b 15, .inl (t 1, 48, .inl (fun j => bI (sT j)))), (b 16, .inl (t 1, 96, .inl (fun j => bI (sP j)))), (b 17, .inl (t 0, 48, .inl (fun j => nI (sa j)))), (b 18, .inl (t 0, 48, .inl (fun j => nI (sb j))))] ++ rest
theorem bI_or {x y : Bool} : bI x ||| bI y = bI (x || y) := by cases x <;> cases y <;> rfl
def goB (kd : Nat → Nat) (ii oo : Nat → Int32) (sT sP : Nat → Bool) (p u v : Nat) : Bool := (!sP p && (!sT u && !sT v)) && letB kd ii oo u v
theorem go_1 {kd : Nat → Nat} {ii oo : Nat → Int32} {sT sP : Nat → Bool} {p u v : Nat} (h : sP p = true) : goB kd ii oo sT sP p u v = false := by unfold goB; rw [h]; rfl
theorem go_2 {kd : Nat → Nat} {ii oo : Nat → Int32} {sT sP : Nat → Bool} {p u v : Nat} (h : sT u = true) : goB kd ii oo sT sP p u v = false := by unfold goB; rw [h]; simp
theorem go_3 {kd : Nat → Nat} {ii oo : Nat → Int32} {sT sP : Nat → Bool} {p u v : Nat} (h : sT v = true) : goB kd ii oo sT sP p u v = false := by unfold goB; rw [h]; simp
theorem go_4 {kd : Nat → Nat} {ii oo : Nat → Int32} {sT sP : Nat → Bool} {p u v : Nat} (h : letB kd ii oo u v = false) : goB kd ii oo sT sP p u v = false := by unfold goB; rw [h, Bool.and_false]
theorem go_5 {kd : Nat → Nat} {ii oo : Nat → Int32} {sT sP : Nat → Bool} {p u v : Nat} (h1 : sP p = false) (h2 : sT u = false) (h3 : sT v = false) (h : letB kd ii oo u v = true) : goB kd ii oo sT sP p u v = true := by unfold goB; rw [h, h1, h2, h3]; rfl
theorem let_1 {kd : Nat → Nat} {ii oo : Nat → Int32} {u v : Nat} (hk : kd u < 2 ^ 31) (h : nI (kd u) = nI 1) (h2 : ¬ oo u = nI v) : letB kd ii oo u v = false := by unfold letB; rw [lb_3 hk h h2]; rfl
theorem let_2 {kd : Nat → Nat} {ii oo : Nat → Int32} {u v : Nat} (hk : kd v < 2 ^ 31) (h : nI (kd v) = nI 1) (h2 : ¬ ii v = nI u) : letB kd ii oo u v = false := by unfold letB; rw [lb_3 hk h h2, Bool.and_false]
theorem let_t {kd : Nat → Nat} {ii oo : Nat → Int32} {u v : Nat} (h1 : (decide (kd u ≠ 1) || decide (oo u = nI v)) = true) (h2 : (decide (kd v ≠ 1) || decide (ii v = nI u)) = true) : letB kd ii oo u v = true := by unfold letB; rw [h1, h2]; rfl
section MODEL1
variable {l : Launch} {g : va_G} {t : Nat → ClassId} {b : Nat → Nat} {n : Nat} {kd : Nat → Nat} {em : Nat → Bool} {br : Nat → Bool} {ii : Nat → Int32} {oo : Nat → Int32} {np : Nat} {ea : Nat → Nat} {eb : Nat → Nat} {li : Nat → Nat} {rn : Nat → Bool} {wp : Nat → Nat} {wl : Nat → Nat} {wf : Nat → Nat} {wt : Nat → Nat} {wn : Nat} {ct : Nat → Nat} {sT : Nat → Bool} {sP : Nat → Bool} {sa : Nat → Nat} {sb : Nat → Nat} {rest : va_W}
set_option maxHeartbeats 4000000 in
set_option maxRecDepth 100000 in
theorem c_MO_isThing (x : Int32) (hn : n ≤ 48) : Rd l y_MO_isThing w_MO_isThing ({ frames := 0, cells := 0, slots := 0, locals := 0 }) g classes (tyL t) [.ref (b 0), .int x] (mW b t n kd em br ii oo np ea eb li rn wp wl wf wt wn ct sT sP sa sb rest) (some (.int (bI (hasB n x)))) := by
  refine Rd.of (cc := b_MO_isThing) (maxL := 2) (ret := (some .boolean)) (own := R_MO) (by decide) rfl rfl (Nat.le_of_ble_eq_true rfl) ?_
  intro p e s m args below meth c C0 hr hlk hP ls hl
  have hl : lv_has ls 2 [(0, .ref (b 0)), (1, .int x)] := hl
  refine lv_iload_n C0.1 C0.2.1 d_MO_isThing_0 rfl (lv_at hl 1 rfl) ?_
  refine lv_if_lt (tgt := 16) C0.1 C0.2.1 d_MO_isThing_1 (by decide) (fun c_1 => ?_) (fun c_1 => ?_)
  · refine lv_iconst (v := nI 0) C0.1 C0.2.1 d_MO_isThing_16 (by decide) ?_
    exact eR_z C0 hr hlk (b := hasB n x) (by rw [hasB_neg c_1]; rfl) rfl d_MO_isThing_17
  · refine lv_iload_n C0.1 C0.2.1 d_MO_isThing_4 rfl (lv_at hl 1 rfl) ?_
    refine lv_aload_n C0.1 C0.2.1 d_MO_isThing_5 rfl (lv_at hl 0 rfl) ?_
    refine gf_MO_66 C0 hP 0 rfl rfl d_MO_isThing_6 ?_
    refine lv_icmp_ge (tgt := 16) C0.1 C0.2.1 d_MO_isThing_9 (by decide) (fun c_9 => ?_) (fun c_9 => ?_)
    · refine lv_iconst (v := nI 0) C0.1 C0.2.1 d_MO_isThing_16 (by decide) ?_
      exact eR_z C0 hr hlk (b := hasB n x) (by rw [hasB_ge (by omega) c_9]; rfl) rfl d_MO_isThing_17
    · refine lv_iconst (v := nI 1) C0.1 C0.2.1 d_MO_isThing_12 (by decide) ?_
      refine lv_goto (tgt := 17) C0.1 C0.2.1 d_MO_isThing_13 (by decide) ?_
      exact eR_z C0 hr hlk (b := hasB n x) (by rw [hasB_t (by omega) c_1 c_9]; rfl) rfl d_MO_isThing_17
set_option maxHeartbeats 4000000 in
set_option maxRecDepth 100000 in
theorem c_MO_isWay (x : Int32) (hn : wn ≤ 64) : Rd l y_MO_isWay w_MO_isWay ({ frames := 0, cells := 0, slots := 0, locals := 0 }) g classes (tyL t) [.ref (b 0), .int x] (mW b t n kd em br ii oo np ea eb li rn wp wl wf wt wn ct sT sP sa sb rest) (some (.int (bI (hasB wn x)))) := by
  refine Rd.of (cc := b_MO_isWay) (maxL := 2) (ret := (some .boolean)) (own := R_MO) (by decide) rfl rfl (Nat.le_of_ble_eq_true rfl) ?_
  intro p e s m args below meth c C0 hr hlk hP ls hl
  have hl : lv_has ls 2 [(0, .ref (b 0)), (1, .int x)] := hl
  refine lv_iload_n C0.1 C0.2.1 d_MO_isWay_0 rfl (lv_at hl 1 rfl) ?_
  refine lv_if_lt (tgt := 16) C0.1 C0.2.1 d_MO_isWay_1 (by decide) (fun c_1 => ?_) (fun c_1 => ?_)
  · refine lv_iconst (v := nI 0) C0.1 C0.2.1 d_MO_isWay_16 (by decide) ?_
    exact eR_z C0 hr hlk (b := hasB wn x) (by rw [hasB_neg c_1]; rfl) rfl d_MO_isWay_17
  · refine lv_iload_n C0.1 C0.2.1 d_MO_isWay_4 rfl (lv_at hl 1 rfl) ?_
    refine lv_aload_n C0.1 C0.2.1 d_MO_isWay_5 rfl (lv_at hl 0 rfl) ?_
    refine gf_MO_116 C0 hP 0 rfl rfl d_MO_isWay_6 ?_
    refine lv_icmp_ge (tgt := 16) C0.1 C0.2.1 d_MO_isWay_9 (by decide) (fun c_9 => ?_) (fun c_9 => ?_)
    · refine lv_iconst (v := nI 0) C0.1 C0.2.1 d_MO_isWay_16 (by decide) ?_
      exact eR_z C0 hr hlk (b := hasB wn x) (by rw [hasB_ge (by omega) c_9]; rfl) rfl d_MO_isWay_17
    · refine lv_iconst (v := nI 1) C0.1 C0.2.1 d_MO_isWay_12 (by decide) ?_
      refine lv_goto (tgt := 17) C0.1 C0.2.1 d_MO_isWay_13 (by decide) ?_
      exact eR_z C0 hr hlk (b := hasB wn x) (by rw [hasB_t (by omega) c_1 c_9]; rfl) rfl d_MO_isWay_17
set_option maxHeartbeats 4000000 in
set_option maxRecDepth 100000 in
theorem c_MO_isTank (x : Int32) (hn : n ≤ 48) (hk : ∀ j, kd j < 3) : Rd l y_MO_isTank w_MO_isTank ({ frames := 1, cells := 0, slots := 0, locals := 21 }) g classes (tyL t) [.ref (b 0), .int x] (mW b t n kd em br ii oo np ea eb li rn wp wl wf wt wn ct sT sP sa sb rest) (some (.int (bI (isK n kd x 0)))) := by
  refine Rd.of (cc := b_MO_isTank) (maxL := 2) (ret := (some .boolean)) (own := R_MO) (by decide) rfl rfl (Nat.le_of_ble_eq_true rfl) ?_
  intro p e s m args below meth c C0 hr hlk hP ls hl
  have hl : lv_has ls 2 [(0, .ref (b 0)), (1, .int x)] := hl
  refine lv_aload_n C0.1 C0.2.1 d_MO_isTank_0 rfl (lv_at hl 0 rfl) ?_
  refine lv_iload_n C0.1 C0.2.1 d_MO_isTank_1 rfl (lv_at hl 1 rfl) ?_
  refine cR (As := [.int x]) (rest := []) C0 (c_MO_isThing x hn) (q_MO_74 C0.2.2.2.2.1 rfl rfl ⟨Nat.le_of_ble_eq_true rfl, Nat.le_of_ble_eq_true rfl⟩) (ci := 5) (q0 := 0) rfl rfl rfl hP hl.1 rfl rfl (Nat.le_of_ble_eq_true rfl) d_MO_isTank_2 ⟨Nat.zero_le _, Nat.zero_le _⟩ ?_
  refine W.eq (g2 := F0 m 5 ls [.int (bI (hasB n x))]) rfl ?_
  refine lv_if_eq (tgt := 21) C0.1 C0.2.1 d_MO_isTank_5 (by decide) (fun c_5 => ?_) (fun c_5 => ?_)
  · refine lv_iconst (v := nI 0) C0.1 C0.2.1 d_MO_isTank_21 (by decide) ?_
    exact eR_z C0 hr hlk (b := isK n kd x 0) (by rw [isK_n (bI_0.mp c_5)]; rfl) rfl d_MO_isTank_22
  · have c_5 := bI_n0.mp c_5
    obtain ⟨j, hj, rfl⟩ := hasB_ex (by omega) c_5
    refine lv_aload_n C0.1 C0.2.1 d_MO_isTank_8 rfl (lv_at hl 0 rfl) ?_
    refine gf_MO_9 C0 hP 0 rfl rfl d_MO_isTank_9 ?_
    refine lv_iload_n C0.1 C0.2.1 d_MO_isTank_12 rfl (lv_at hl 1 rfl) ?_
    refine ald_i C0 hP 1 0 rfl rfl (by omega) (by decide) d_MO_isTank_13 ?_
    refine lv_if_ne (tgt := 21) C0.1 C0.2.1 d_MO_isTank_14 (by decide) (fun c_14 => ?_) (fun c_14 => ?_)
    · refine lv_iconst (v := nI 0) C0.1 C0.2.1 d_MO_isTank_21 (by decide) ?_
      exact eR_z C0 hr hlk (b := isK n kd (nI j) 0) (by rw [isK_j hj (by have := hk j; omega) (by omega)]; rw [decide_eq_false (fun q => c_14 (by rw [q]; rfl))]; rfl) rfl d_MO_isTank_22
    · refine lv_iconst (v := nI 1) C0.1 C0.2.1 d_MO_isTank_17 (by decide) ?_
      refine lv_goto (tgt := 22) C0.1 C0.2.1 d_MO_isTank_18 (by decide) ?_
      exact eR_z C0 hr hlk (b := isK n kd (nI j) 0) (by rw [isK_j hj (by have := hk j; omega) (by omega)]; rw [decide_eq_true ((nI_eq (by have := hk j; omega) (by decide)).mp c_14)]; rfl) rfl d_MO_isTank_22
set_option maxHeartbeats 4000000 in
set_option maxRecDepth 100000 in
theorem c_MO_thing_full (k0 : Int32) (hn : n = 48) : Rd l y_MO_thing w_MO_thing ({ frames := 0, cells := 0, slots := 0, locals := 0 }) g classes (tyL t) [.ref (b 0), .int k0] (mW b t n kd em br ii oo np ea eb li rn wp wl wf wt wn ct sT sP sa sb rest) (some (.int (-5))) := by
  refine Rd.of (cc := b_MO_thing) (maxL := 2) (ret := (some .int)) (own := R_MO) (by decide) rfl rfl (Nat.le_of_ble_eq_true rfl) ?_
  intro p e s m args below meth c C0 hr hlk hP ls hl
  have hl : lv_has ls 2 [(0, .ref (b 0)), (1, .int k0)] := hl
  refine lv_aload_n C0.1 C0.2.1 d_MO_thing_0 rfl (lv_at hl 0 rfl) ?_
  refine gf_MO_66 C0 hP 0 rfl rfl d_MO_thing_1 ?_
  refine lv_bipush (v := nI 48) C0.1 C0.2.1 d_MO_thing_4 (by decide) ?_
  refine lv_icmp_ne (tgt := 12) C0.1 C0.2.1 d_MO_thing_6 (by decide) (fun c_6 => ?_) (fun c_6 => ?_)
  · exact absurd (by rw [hn]) c_6
  · refine lv_bipush (v := -5) C0.1 C0.2.1 d_MO_thing_9 (by decide) ?_
    exact eR_i C0 hr hlk (rfl) d_MO_thing_11
set_option maxHeartbeats 4000000 in
set_option maxRecDepth 100000 in
theorem c_MO_thing (k0 : Nat) (hn : n < 48) : Mt l y_MO_thing w_MO_thing ({ frames := 0, cells := 0, slots := 0, locals := 0 }) g classes (tyL t) [.ref (b 0), .int (nI k0)] (mW b t n kd em br ii oo np ea eb li rn wp wl wf wt wn ct sT sP sa sb rest) (S := Unit) (fun v _ => v = some (.int (nI n))) (fun _ => (mW b t (n + 1) (va_up kd n k0) em br (va_up ii n (-1)) (va_up oo n (-1)) np ea eb li rn wp wl wf wt wn ct sT sP sa sb rest)) 0 0 := by
  refine Mt.of (cc := b_MO_thing) (maxL := 2) (ret := (some .int)) (own := R_MO) (by decide) rfl rfl (Nat.le_of_ble_eq_true rfl) ?_
  intro p e s m args below meth c C0 hr hlk hin A hA hB ls hl
  have hl : lv_has ls 2 [(0, .ref (b 0)), (1, .int (nI k0))] := hl
  refine lv_aload_n C0.1 C0.2.1 d_MO_thing_0 rfl (lv_at hl 0 rfl) ?_
  refine gf_MO_66 C0 hB.1 0 rfl rfl d_MO_thing_1 ?_
  refine lv_bipush (v := nI 48) C0.1 C0.2.1 d_MO_thing_4 (by decide) ?_
  refine lv_icmp_ne (tgt := 12) C0.1 C0.2.1 d_MO_thing_6 (by decide) (fun c_6 => ?_) (fun c_6 => ?_)
  · refine lv_aload_n C0.1 C0.2.1 d_MO_thing_12 rfl (lv_at hl 0 rfl) ?_
    refine gf_MO_9 C0 hB.1 0 rfl rfl d_MO_thing_13 ?_
    refine lv_aload_n C0.1 C0.2.1 d_MO_thing_16 rfl (lv_at hl 0 rfl) ?_
    refine gf_MO_66 C0 hB.1 0 rfl rfl d_MO_thing_17 ?_
    refine lv_iload_n C0.1 C0.2.1 d_MO_thing_20 rfl (lv_at hl 1 rfl) ?_
    refine ast_i (w' := (mW b t n (va_up kd n k0) em br ii oo np ea eb li rn wp wl wf wt wn ct sT sP sa sb rest)) C0 hB 1 0 rfl rfl (by omega) (by decide) up_nI rfl d_MO_thing_21 (fun H locs hB => ?_)
    refine lv_aload_n C0.1 C0.2.1 d_MO_thing_22 rfl (lv_at hl 0 rfl) ?_
    refine gf_MO_20 C0 hB.1 0 rfl rfl d_MO_thing_23 ?_
    refine lv_aload_n C0.1 C0.2.1 d_MO_thing_26 rfl (lv_at hl 0 rfl) ?_
    refine gf_MO_66 C0 hB.1 0 rfl rfl d_MO_thing_27 ?_
    refine lv_iconst (v := -1) C0.1 C0.2.1 d_MO_thing_30 (by decide) ?_
    refine ast_i (w' := (mW b t n (va_up kd n k0) em br (va_up ii n (-1)) oo np ea eb li rn wp wl wf wt wn ct sT sP sa sb rest)) C0 hB 4 0 rfl rfl (by omega) (by decide) up_32 rfl d_MO_thing_31 (fun H locs hB => ?_)
    refine lv_aload_n C0.1 C0.2.1 d_MO_thing_32 rfl (lv_at hl 0 rfl) ?_
    refine gf_MO_23 C0 hB.1 0 rfl rfl d_MO_thing_33 ?_
    refine lv_aload_n C0.1 C0.2.1 d_MO_thing_36 rfl (lv_at hl 0 rfl) ?_
    refine gf_MO_66 C0 hB.1 0 rfl rfl d_MO_thing_37 ?_
    refine lv_iconst (v := -1) C0.1 C0.2.1 d_MO_thing_40 (by decide) ?_
    refine ast_i (w' := (mW b t n (va_up kd n k0) em br (va_up ii n (-1)) (va_up oo n (-1)) np ea eb li rn wp wl wf wt wn ct sT sP sa sb rest)) C0 hB 5 0 rfl rfl (by omega) (by decide) up_32 rfl d_MO_thing_41 (fun H locs hB => ?_)
    refine lv_aload_n C0.1 C0.2.1 d_MO_thing_42 rfl (lv_at hl 0 rfl) ?_
    refine lv_dup C0.1 C0.2.1 d_MO_thing_43 rfl ?_
    refine gf_MO_66 C0 hB.1 0 rfl rfl d_MO_thing_44 ?_
    refine lv_iconst (v := nI 1) C0.1 C0.2.1 d_MO_thing_47 (by decide) ?_
    refine lv_iadd C0.1 C0.2.1 d_MO_thing_48 ?_
    refine ti (show (nI n) + (nI 1) = nI (n + 1) from nI_add _ _) ?_
    refine pf_MO_66 (w' := (mW b t (n + 1) (va_up kd n k0) em br (va_up ii n (-1)) (va_up oo n (-1)) np ea eb li rn wp wl wf wt wn ct sT sP sa sb rest)) C0 hB 0 rfl (Nat.le_of_ble_eq_true rfl) rfl rfl rfl d_MO_thing_49 (fun H locs hB => ?_)
    refine lv_aload_n C0.1 C0.2.1 d_MO_thing_52 rfl (lv_at hl 0 rfl) ?_
    refine gf_MO_66 C0 hB.1 0 rfl rfl d_MO_thing_53 ?_
    refine lv_iconst (v := nI 1) C0.1 C0.2.1 d_MO_thing_56 (by decide) ?_
    refine lv_isub C0.1 C0.2.1 d_MO_thing_57 ?_
    refine ti (show (nI (n + 1)) - (nI 1) = nI n from (pk_sub (by omega) : nI (n + 1) - nI 1 = nI (n + 1 - 1))) ?_
    exact eM_i C0 hr hlk () hB (rfl) (Nat.le_refl _) (Nat.le_refl _) d_MO_thing_58
  · exact absurd ((nI_eq (by omega) (by decide)).mp c_6) (by omega)
set_option maxHeartbeats 4000000 in
set_option maxRecDepth 100000 in
theorem c_MO_pump_full (hn : n = 48) : Rd l y_MO_pump w_MO_pump ({ frames := 1, cells := 0, slots := 0, locals := 21 }) g classes (tyL t) [.ref (b 0)] (mW b t n kd em br ii oo np ea eb li rn wp wl wf wt wn ct sT sP sa sb rest) (some (.int (-5))) := by
  refine Rd.of (cc := b_MO_pump) (maxL := 1) (ret := (some .int)) (own := R_MO) (by decide) rfl rfl (Nat.le_of_ble_eq_true rfl) ?_
  intro p e s m args below meth c C0 hr hlk hP ls hl
  have hl : lv_has ls 1 [(0, .ref (b 0))] := hl
  refine lv_aload_n C0.1 C0.2.1 d_MO_pump_0 rfl (lv_at hl 0 rfl) ?_
  refine lv_iconst (v := nI 1) C0.1 C0.2.1 d_MO_pump_1 (by decide) ?_
  refine cR (As := [.int (nI 1)]) (rest := []) C0 (c_MO_thing_full (nI 1) hn) (q_MO_70 C0.2.2.2.2.1 rfl rfl ⟨Nat.le_of_ble_eq_true rfl, Nat.le_of_ble_eq_true rfl⟩) (ci := 5) (q0 := 0) rfl rfl rfl hP hl.1 rfl rfl (Nat.le_of_ble_eq_true rfl) d_MO_pump_2 ⟨Nat.zero_le _, Nat.zero_le _⟩ ?_
  refine W.eq (g2 := F0 m 5 ls [.int (-5)]) rfl ?_
  exact eR_i C0 hr hlk (rfl) d_MO_pump_5
set_option maxHeartbeats 4000000 in
set_option maxRecDepth 100000 in
theorem c_MO_pump (hn : n < 48) : Mt l y_MO_pump w_MO_pump ({ frames := 1, cells := 0, slots := 0, locals := 21 }) g classes (tyL t) [.ref (b 0)] (mW b t n kd em br ii oo np ea eb li rn wp wl wf wt wn ct sT sP sa sb rest) (S := Unit) (fun v _ => v = some (.int (nI n))) (fun _ => (mW b t (n + 1) (va_up kd n 1) em br (va_up ii n (-1)) (va_up oo n (-1)) np ea eb li rn wp wl wf wt wn ct sT sP sa sb rest)) 0 0 := by
  refine Mt.of (cc := b_MO_pump) (maxL := 1) (ret := (some .int)) (own := R_MO) (by decide) rfl rfl (Nat.le_of_ble_eq_true rfl) ?_
  intro p e s m args below meth c C0 hr hlk hin A hA hB ls hl
  have hl : lv_has ls 1 [(0, .ref (b 0))] := hl
  refine lv_aload_n C0.1 C0.2.1 d_MO_pump_0 rfl (lv_at hl 0 rfl) ?_
  refine lv_iconst (v := nI 1) C0.1 C0.2.1 d_MO_pump_1 (by decide) ?_
  refine cM (As := [.int (nI 1)]) (rest := []) C0 (c_MO_thing 1 hn) (q_MO_70 C0.2.2.2.2.1 rfl rfl ⟨Nat.le_of_ble_eq_true rfl, Nat.le_of_ble_eq_true rfl⟩) (ci := 5) (q0 := 0) rfl rfl rfl hB hl.1 rfl rfl (Nat.le_of_ble_eq_true rfl) d_MO_pump_2 ⟨Nat.zero_le _, Nat.zero_le _⟩ (fun v_2 u_2 H locs hp_2 hB => ?_)
  obtain rfl := hp_2
  have hB : wB g classes A s.heap (mW b t (n + 1) (va_up kd n 1) em br (va_up ii n (-1)) (va_up oo n (-1)) np ea eb li rn wp wl wf wt wn ct sT sP sa sb rest) H locs := hB
  refine W.eq (g2 := F0 m 5 ls [.int (nI n)]) rfl ?_
  exact eM_i C0 hr hlk () hB (rfl) (Nat.le_refl _) (Nat.le_refl _) d_MO_pump_5
set_option maxHeartbeats 4000000 in
set_option maxRecDepth 100000 in
theorem c_MO_valve_full (hn : n = 48) : Rd l y_MO_valve w_MO_valve ({ frames := 1, cells := 0, slots := 0, locals := 21 }) g classes (tyL t) [.ref (b 0)] (mW b t n kd em br ii oo np ea eb li rn wp wl wf wt wn ct sT sP sa sb rest) (some (.int (-5))) := by
  refine Rd.of (cc := b_MO_valve) (maxL := 1) (ret := (some .int)) (own := R_MO) (by decide) rfl rfl (Nat.le_of_ble_eq_true rfl) ?_
  intro p e s m args below meth c C0 hr hlk hP ls hl
  have hl : lv_has ls 1 [(0, .ref (b 0))] := hl
  refine lv_aload_n C0.1 C0.2.1 d_MO_valve_0 rfl (lv_at hl 0 rfl) ?_
  refine lv_iconst (v := nI 2) C0.1 C0.2.1 d_MO_valve_1 (by decide) ?_
  refine cR (As := [.int (nI 2)]) (rest := []) C0 (c_MO_thing_full (nI 2) hn) (q_MO_70 C0.2.2.2.2.1 rfl rfl ⟨Nat.le_of_ble_eq_true rfl, Nat.le_of_ble_eq_true rfl⟩) (ci := 5) (q0 := 0) rfl rfl rfl hP hl.1 rfl rfl (Nat.le_of_ble_eq_true rfl) d_MO_valve_2 ⟨Nat.zero_le _, Nat.zero_le _⟩ ?_
  refine W.eq (g2 := F0 m 5 ls [.int (-5)]) rfl ?_
  exact eR_i C0 hr hlk (rfl) d_MO_valve_5
set_option maxHeartbeats 4000000 in
set_option maxRecDepth 100000 in
theorem c_MO_valve (hn : n < 48) : Mt l y_MO_valve w_MO_valve ({ frames := 1, cells := 0, slots := 0, locals := 21 }) g classes (tyL t) [.ref (b 0)] (mW b t n kd em br ii oo np ea eb li rn wp wl wf wt wn ct sT sP sa sb rest) (S := Unit) (fun v _ => v = some (.int (nI n))) (fun _ => (mW b t (n + 1) (va_up kd n 2) em br (va_up ii n (-1)) (va_up oo n (-1)) np ea eb li rn wp wl wf wt wn ct sT sP sa sb rest)) 0 0 := by
  refine Mt.of (cc := b_MO_valve) (maxL := 1) (ret := (some .int)) (own := R_MO) (by decide) rfl rfl (Nat.le_of_ble_eq_true rfl) ?_
  intro p e s m args below meth c C0 hr hlk hin A hA hB ls hl
  have hl : lv_has ls 1 [(0, .ref (b 0))] := hl
  refine lv_aload_n C0.1 C0.2.1 d_MO_valve_0 rfl (lv_at hl 0 rfl) ?_
  refine lv_iconst (v := nI 2) C0.1 C0.2.1 d_MO_valve_1 (by decide) ?_
  refine cM (As := [.int (nI 2)]) (rest := []) C0 (c_MO_thing 2 hn) (q_MO_70 C0.2.2.2.2.1 rfl rfl ⟨Nat.le_of_ble_eq_true rfl, Nat.le_of_ble_eq_true rfl⟩) (ci := 5) (q0 := 0) rfl rfl rfl hB hl.1 rfl rfl (Nat.le_of_ble_eq_true rfl) d_MO_valve_2 ⟨Nat.zero_le _, Nat.zero_le _⟩ (fun v_2 u_2 H locs hp_2 hB => ?_)
  obtain rfl := hp_2
  have hB : wB g classes A s.heap (mW b t (n + 1) (va_up kd n 2) em br (va_up ii n (-1)) (va_up oo n (-1)) np ea eb li rn wp wl wf wt wn ct sT sP sa sb rest) H locs := hB
  refine W.eq (g2 := F0 m 5 ls [.int (nI n)]) rfl ?_
  exact eM_i C0 hr hlk () hB (rfl) (Nat.le_refl _) (Nat.le_refl _) d_MO_valve_5
set_option maxHeartbeats 4000000 in
set_option maxRecDepth 100000 in
theorem c_MO_tank_full (b0 : Bool) (hn : n = 48) : Rd l y_MO_tank w_MO_tank ({ frames := 1, cells := 0, slots := 0, locals := 21 }) g classes (tyL t) [.ref (b 0), .int (bI b0)] (mW b t n kd em br ii oo np ea eb li rn wp wl wf wt wn ct sT sP sa sb rest) (some (.int (-5))) := by
  refine Rd.of (cc := b_MO_tank) (maxL := 3) (ret := (some .int)) (own := R_MO) (by decide) rfl rfl (Nat.le_of_ble_eq_true rfl) ?_
  intro p e s m args below meth c C0 hr hlk hP ls hl
  have hl : lv_has ls 3 [(0, .ref (b 0)), (1, .int (bI b0))] := hl
  refine lv_aload_n C0.1 C0.2.1 d_MO_tank_0 rfl (lv_at hl 0 rfl) ?_
  refine lv_iconst (v := nI 0) C0.1 C0.2.1 d_MO_tank_1 (by decide) ?_
  refine cR (As := [.int (nI 0)]) (rest := []) C0 (c_MO_thing_full (nI 0) hn) (q_MO_70 C0.2.2.2.2.1 rfl rfl ⟨Nat.le_of_ble_eq_true rfl, Nat.le_of_ble_eq_true rfl⟩) (ci := 5) (q0 := 0) rfl rfl rfl hP hl.1 rfl rfl (Nat.le_of_ble_eq_true rfl) d_MO_tank_2 ⟨Nat.zero_le _, Nat.zero_le _⟩ ?_
  refine W.eq (g2 := F0 m 5 ls [.int (-5)]) rfl ?_
  refine lv_istore_n (lv' := [(2, .int (-5)), (0, .ref (b 0)), (1, .int (bI b0))]) C0.1 C0.2.1 d_MO_tank_5 rfl hl (by decide) rfl (fun ls hl => ?_)
  refine lv_iload_n C0.1 C0.2.1 d_MO_tank_6 rfl (lv_at hl 0 rfl) ?_
  refine lv_if_lt (tgt := 17) C0.1 C0.2.1 d_MO_tank_7 (by decide) (fun c_7 => ?_) (fun c_7 => ?_)
  · refine lv_iload_n C0.1 C0.2.1 d_MO_tank_17 rfl (lv_at hl 0 rfl) ?_
    exact eR_i C0 hr hlk (rfl) d_MO_tank_18
  · exact absurd (by decide) c_7
set_option maxHeartbeats 4000000 in
set_option maxRecDepth 100000 in
theorem c_MO_tank (b0 : Bool) (hn : n < 48) : Mt l y_MO_tank w_MO_tank ({ frames := 1, cells := 0, slots := 0, locals := 21 }) g classes (tyL t) [.ref (b 0), .int (bI b0)] (mW b t n kd em br ii oo np ea eb li rn wp wl wf wt wn ct sT sP sa sb rest) (S := Unit) (fun v _ => v = some (.int (nI n))) (fun _ => (mW b t (n + 1) (va_up kd n 0) (va_up em n b0) br (va_up ii n (-1)) (va_up oo n (-1)) np ea eb li rn wp wl wf wt wn ct sT sP sa sb rest)) 0 0 := by
  refine Mt.of (cc := b_MO_tank) (maxL := 3) (ret := (some .int)) (own := R_MO) (by decide) rfl rfl (Nat.le_of_ble_eq_true rfl) ?_
  intro p e s m args below meth c C0 hr hlk hin A hA hB ls hl
  have hl : lv_has ls 3 [(0, .ref (b 0)), (1, .int (bI b0))] := hl
  refine lv_aload_n C0.1 C0.2.1 d_MO_tank_0 rfl (lv_at hl 0 rfl) ?_
  refine lv_iconst (v := nI 0) C0.1 C0.2.1 d_MO_tank_1 (by decide) ?_
  refine cM (As := [.int (nI 0)]) (rest := []) C0 (c_MO_thing 0 hn) (q_MO_70 C0.2.2.2.2.1 rfl rfl ⟨Nat.le_of_ble_eq_true rfl, Nat.le_of_ble_eq_true rfl⟩) (ci := 5) (q0 := 0) rfl rfl rfl hB hl.1 rfl rfl (Nat.le_of_ble_eq_true rfl) d_MO_tank_2 ⟨Nat.zero_le _, Nat.zero_le _⟩ (fun v_2 u_2 H locs hp_2 hB => ?_)
  obtain rfl := hp_2
  have hB : wB g classes A s.heap (mW b t (n + 1) (va_up kd n 0) em br (va_up ii n (-1)) (va_up oo n (-1)) np ea eb li rn wp wl wf wt wn ct sT sP sa sb rest) H locs := hB
  refine W.eq (g2 := F0 m 5 ls [.int (nI n)]) rfl ?_
  refine lv_istore_n (lv' := [(2, .int (nI n)), (0, .ref (b 0)), (1, .int (bI b0))]) C0.1 C0.2.1 d_MO_tank_5 rfl hl (by decide) rfl (fun ls hl => ?_)
  refine lv_iload_n C0.1 C0.2.1 d_MO_tank_6 rfl (lv_at hl 0 rfl) ?_
  refine lv_if_lt (tgt := 17) C0.1 C0.2.1 d_MO_tank_7 (by decide) (fun c_7 => ?_) (fun c_7 => ?_)
  · exact absurd c_7 (nI_pos (by omega))
  · refine lv_aload_n C0.1 C0.2.1 d_MO_tank_10 rfl (lv_at hl 1 rfl) ?_
    refine gf_MO_13 C0 hB.1 0 rfl rfl d_MO_tank_11 ?_
    refine lv_iload_n C0.1 C0.2.1 d_MO_tank_14 rfl (lv_at hl 0 rfl) ?_
    refine lv_iload_n C0.1 C0.2.1 d_MO_tank_15 rfl (lv_at hl 2 rfl) ?_
    refine ast_z (w' := (mW b t (n + 1) (va_up kd n 0) (va_up em n b0) br (va_up ii n (-1)) (va_up oo n (-1)) np ea eb li rn wp wl wf wt wn ct sT sP sa sb rest)) C0 hB 2 1 rfl rfl (by omega) (by decide) up_bI rfl d_MO_tank_16 (fun H locs hB => ?_)
    refine lv_iload_n C0.1 C0.2.1 d_MO_tank_17 rfl (lv_at hl 0 rfl) ?_
    exact eM_i C0 hr hlk () hB (rfl) (Nat.le_refl _) (Nat.le_refl _) d_MO_tank_18
set_option maxHeartbeats 4000000 in
set_option maxRecDepth 100000 in
theorem c_MO_pipe_no (x y : Int32) (z : Int64) (hn : n ≤ 48) (hnp : np ≤ 96) (hno : ¬ pipR n np x y z = 0) : Rd l y_MO_pipe w_MO_pipe ({ frames := 1, cells := 0, slots := 0, locals := 21 }) g classes (tyL t) [.ref (b 0), .int x, .int y, .long z] (mW b t n kd em br ii oo np ea eb li rn wp wl wf wt wn ct sT sP sa sb rest) (some (.int (pipR n np x y z))) := by
  refine Rd.of (cc := b_MO_pipe) (maxL := 5) (ret := (some .int)) (own := R_MO) (by decide) rfl rfl (Nat.le_of_ble_eq_true rfl) ?_
  intro p e s m args below meth c C0 hr hlk hP ls hl
  have hl : lv_has ls 5 [(0, .ref (b 0)), (1, .int x), (2, .int y), (3, .long z)] := hl
  refine lv_aload_n C0.1 C0.2.1 d_MO_pipe_0 rfl (lv_at hl 0 rfl) ?_
  refine lv_iload_n C0.1 C0.2.1 d_MO_pipe_1 rfl (lv_at hl 1 rfl) ?_
  refine cR (As := [.int x]) (rest := []) C0 (c_MO_isThing x hn) (q_MO_74 C0.2.2.2.2.1 rfl rfl ⟨Nat.le_of_ble_eq_true rfl, Nat.le_of_ble_eq_true rfl⟩) (ci := 5) (q0 := 0) rfl rfl rfl hP hl.1 rfl rfl (Nat.le_of_ble_eq_true rfl) d_MO_pipe_2 ⟨Nat.zero_le _, Nat.zero_le _⟩ ?_
  refine W.eq (g2 := F0 m 5 ls [.int (bI (hasB n x))]) rfl ?_
  refine lv_if_eq (tgt := 16) C0.1 C0.2.1 d_MO_pipe_5 (by decide) (fun c_5 => ?_) (fun c_5 => ?_)
  · refine lv_bipush (v := -2) C0.1 C0.2.1 d_MO_pipe_16 (by decide) ?_
    exact eR_i C0 hr hlk (by rw [pipR_w (by rw [bI_0.mp c_5]; rfl)]) d_MO_pipe_18
  · refine lv_aload_n C0.1 C0.2.1 d_MO_pipe_8 rfl (lv_at hl 0 rfl) ?_
    refine lv_iload_n C0.1 C0.2.1 d_MO_pipe_9 rfl (lv_at hl 2 rfl) ?_
    refine cR (As := [.int y]) (rest := []) C0 (c_MO_isThing y hn) (q_MO_74 C0.2.2.2.2.1 rfl rfl ⟨Nat.le_of_ble_eq_true rfl, Nat.le_of_ble_eq_true rfl⟩) (ci := 5) (q0 := 0) rfl rfl rfl hP hl.1 rfl rfl (Nat.le_of_ble_eq_true rfl) d_MO_pipe_10 ⟨Nat.zero_le _, Nat.zero_le _⟩ ?_
    refine W.eq (g2 := F0 m 13 ls [.int (bI (hasB n y))]) rfl ?_
    refine lv_if_ne (tgt := 19) C0.1 C0.2.1 d_MO_pipe_13 (by decide) (fun c_13 => ?_) (fun c_13 => ?_)
    · refine lv_iload_n C0.1 C0.2.1 d_MO_pipe_19 rfl (lv_at hl 1 rfl) ?_
      refine lv_iload_n C0.1 C0.2.1 d_MO_pipe_20 rfl (lv_at hl 2 rfl) ?_
      refine lv_icmp_eq (tgt := 38) C0.1 C0.2.1 d_MO_pipe_21 (by decide) (fun c_21 => ?_) (fun c_21 => ?_)
      · refine lv_iconst (v := -1) C0.1 C0.2.1 d_MO_pipe_38 (by decide) ?_
        exact eR_i C0 hr hlk (by rw [pipR_n (bI_n0.mp c_5) (bI_n0.mp c_13) (Or.inr (Or.inr c_21))]) d_MO_pipe_39
      · refine lv_lload_n C0.1 C0.2.1 d_MO_pipe_24 rfl (lv_at hl 3 rfl) ?_
        refine lv_lconst (v := lN 1) C0.1 C0.2.1 d_MO_pipe_25 rfl ?_
        refine W.lcmp C0.1 C0.2.1 d_MO_pipe_26 ?_
        refine lv_if_lt (tgt := 38) C0.1 C0.2.1 d_MO_pipe_27 (by decide) (fun c_27 => ?_) (fun c_27 => ?_)
        · refine lv_iconst (v := -1) C0.1 C0.2.1 d_MO_pipe_38 (by decide) ?_
          exact eR_i C0 hr hlk (by rw [pipR_n (bI_n0.mp c_5) (bI_n0.mp c_13) (Or.inl ((lg_cmp_lt _ _).mp c_27))]) d_MO_pipe_39
        · refine lv_lload_n C0.1 C0.2.1 d_MO_pipe_30 rfl (lv_at hl 3 rfl) ?_
          refine lv_ldc2 C0.1 C0.2.1 C0.2.2.2.1 (C0.2.2.2.2.1 _ k_MO_78) d_MO_pipe_31 ?_
          refine tl (show (1000000000 : Int64) = lN 1000000000 from rfl) ?_
          refine W.lcmp C0.1 C0.2.1 d_MO_pipe_34 ?_
          refine lv_if_le (tgt := 40) C0.1 C0.2.1 d_MO_pipe_35 (by decide) (fun c_35 => ?_) (fun c_35 => ?_)
          · refine lv_aload_n C0.1 C0.2.1 d_MO_pipe_40 rfl (lv_at hl 0 rfl) ?_
            refine gf_MO_80 C0 hP 0 rfl rfl d_MO_pipe_41 ?_
            refine lv_bipush (v := nI 96) C0.1 C0.2.1 d_MO_pipe_44 (by decide) ?_
            refine lv_icmp_ne (tgt := 52) C0.1 C0.2.1 d_MO_pipe_46 (by decide) (fun c_46 => ?_) (fun c_46 => ?_)
            · exact absurd (pipR_0 (bI_n0.mp c_5) (bI_n0.mp c_13) (fun q => by rcases q with q | q | q; exact c_27 ((lg_cmp_lt _ _).mpr q); exact absurd ((lg_cmp_le _ _).mp c_35) (Int64.not_le.mpr q); exact c_21 q) (fun q => c_46 (by rw [q]))) hno
            · refine lv_bipush (v := -5) C0.1 C0.2.1 d_MO_pipe_49 (by decide) ?_
              exact eR_i C0 hr hlk (by rw [pipR_f (bI_n0.mp c_5) (bI_n0.mp c_13) (fun q => by rcases q with q | q | q; exact c_27 ((lg_cmp_lt _ _).mpr q); exact absurd ((lg_cmp_le _ _).mp c_35) (Int64.not_le.mpr q); exact c_21 q) ((nI_eq (by omega) (by decide)).mp c_46)]) d_MO_pipe_51
          · refine lv_iconst (v := -1) C0.1 C0.2.1 d_MO_pipe_38 (by decide) ?_
            exact eR_i C0 hr hlk (by rw [pipR_n (bI_n0.mp c_5) (bI_n0.mp c_13) (Or.inr (Or.inl (Int64.not_le.mp (fun q => c_35 ((lg_cmp_le _ _).mpr q)))))]) d_MO_pipe_39
    · refine lv_bipush (v := -2) C0.1 C0.2.1 d_MO_pipe_16 (by decide) ?_
      exact eR_i C0 hr hlk (by rw [pipR_w (by rw [bI_0.mp c_13, Bool.and_false])]) d_MO_pipe_18
set_option maxHeartbeats 4000000 in
set_option maxRecDepth 100000 in
theorem c_MO_pipe (i j k : Nat) (hi : i < n) (hj : j < n) (hij : i ≠ j) (hk1 : 1 ≤ k) (hk2 : k ≤ 1000000000) (hn : n ≤ 48) (hnp : np < 96) : Mt l y_MO_pipe w_MO_pipe ({ frames := 1, cells := 0, slots := 0, locals := 21 }) g classes (tyL t) [.ref (b 0), .int (nI i), .int (nI j), .long (lN k)] (mW b t n kd em br ii oo np ea eb li rn wp wl wf wt wn ct sT sP sa sb rest) (S := Unit) (fun v _ => v = some (.int (nI np))) (fun _ => (mW b t n kd em br ii oo (np + 1) (va_up ea np i) (va_up eb np j) (va_up li np k) rn wp wl wf wt wn ct sT sP sa sb rest)) 0 0 := by
  refine Mt.of (cc := b_MO_pipe) (maxL := 5) (ret := (some .int)) (own := R_MO) (by decide) rfl rfl (Nat.le_of_ble_eq_true rfl) ?_
  intro p e s m args below meth c C0 hr hlk hin A hA hB ls hl
  have hl : lv_has ls 5 [(0, .ref (b 0)), (1, .int (nI i)), (2, .int (nI j)), (3, .long (lN k))] := hl
  refine lv_aload_n C0.1 C0.2.1 d_MO_pipe_0 rfl (lv_at hl 0 rfl) ?_
  refine lv_iload_n C0.1 C0.2.1 d_MO_pipe_1 rfl (lv_at hl 1 rfl) ?_
  refine cR (As := [.int (nI i)]) (rest := []) C0 (c_MO_isThing (nI i) hn) (q_MO_74 C0.2.2.2.2.1 rfl rfl ⟨Nat.le_of_ble_eq_true rfl, Nat.le_of_ble_eq_true rfl⟩) (ci := 5) (q0 := 0) rfl rfl rfl hB.1 hl.1 rfl rfl (Nat.le_of_ble_eq_true rfl) d_MO_pipe_2 ⟨Nat.zero_le _, Nat.zero_le _⟩ ?_
  refine W.eq (g2 := F0 m 5 ls [.int (bI (hasB n (nI i)))]) rfl ?_
  refine lv_if_eq (tgt := 16) C0.1 C0.2.1 d_MO_pipe_5 (by decide) (fun c_5 => ?_) (fun c_5 => ?_)
  · exact absurd (bI_0.mp c_5) (by rw [hasB_nI (by omega), decide_eq_true hi]; decide)
  · refine lv_aload_n C0.1 C0.2.1 d_MO_pipe_8 rfl (lv_at hl 0 rfl) ?_
    refine lv_iload_n C0.1 C0.2.1 d_MO_pipe_9 rfl (lv_at hl 2 rfl) ?_
    refine cR (As := [.int (nI j)]) (rest := []) C0 (c_MO_isThing (nI j) hn) (q_MO_74 C0.2.2.2.2.1 rfl rfl ⟨Nat.le_of_ble_eq_true rfl, Nat.le_of_ble_eq_true rfl⟩) (ci := 5) (q0 := 0) rfl rfl rfl hB.1 hl.1 rfl rfl (Nat.le_of_ble_eq_true rfl) d_MO_pipe_10 ⟨Nat.zero_le _, Nat.zero_le _⟩ ?_
    refine W.eq (g2 := F0 m 13 ls [.int (bI (hasB n (nI j)))]) rfl ?_
    refine lv_if_ne (tgt := 19) C0.1 C0.2.1 d_MO_pipe_13 (by decide) (fun c_13 => ?_) (fun c_13 => ?_)
    · refine lv_iload_n C0.1 C0.2.1 d_MO_pipe_19 rfl (lv_at hl 1 rfl) ?_
      refine lv_iload_n C0.1 C0.2.1 d_MO_pipe_20 rfl (lv_at hl 2 rfl) ?_
      refine lv_icmp_eq (tgt := 38) C0.1 C0.2.1 d_MO_pipe_21 (by decide) (fun c_21 => ?_) (fun c_21 => ?_)
      · exact absurd ((nI_eq (by omega) (by omega)).mp c_21) hij
      · refine lv_lload_n C0.1 C0.2.1 d_MO_pipe_24 rfl (lv_at hl 3 rfl) ?_
        refine lv_lconst (v := lN 1) C0.1 C0.2.1 d_MO_pipe_25 rfl ?_
        refine W.lcmp C0.1 C0.2.1 d_MO_pipe_26 ?_
        refine lv_if_lt (tgt := 38) C0.1 C0.2.1 d_MO_pipe_27 (by decide) (fun c_27 => ?_) (fun c_27 => ?_)
        · exact absurd ((pk_lLT (by omega) (by decide)).mp ((lg_cmp_lt _ _).mp c_27)) (by omega)
        · refine lv_lload_n C0.1 C0.2.1 d_MO_pipe_30 rfl (lv_at hl 3 rfl) ?_
          refine lv_ldc2 C0.1 C0.2.1 C0.2.2.2.1 (C0.2.2.2.2.1 _ k_MO_78) d_MO_pipe_31 ?_
          refine tl (show (1000000000 : Int64) = lN 1000000000 from rfl) ?_
          refine W.lcmp C0.1 C0.2.1 d_MO_pipe_34 ?_
          refine lv_if_le (tgt := 40) C0.1 C0.2.1 d_MO_pipe_35 (by decide) (fun c_35 => ?_) (fun c_35 => ?_)
          · refine lv_aload_n C0.1 C0.2.1 d_MO_pipe_40 rfl (lv_at hl 0 rfl) ?_
            refine gf_MO_80 C0 hB.1 0 rfl rfl d_MO_pipe_41 ?_
            refine lv_bipush (v := nI 96) C0.1 C0.2.1 d_MO_pipe_44 (by decide) ?_
            refine lv_icmp_ne (tgt := 52) C0.1 C0.2.1 d_MO_pipe_46 (by decide) (fun c_46 => ?_) (fun c_46 => ?_)
            · refine lv_aload_n C0.1 C0.2.1 d_MO_pipe_52 rfl (lv_at hl 0 rfl) ?_
              refine gf_MO_26 C0 hB.1 0 rfl rfl d_MO_pipe_53 ?_
              refine lv_aload_n C0.1 C0.2.1 d_MO_pipe_56 rfl (lv_at hl 0 rfl) ?_
              refine gf_MO_80 C0 hB.1 0 rfl rfl d_MO_pipe_57 ?_
              refine lv_iload_n C0.1 C0.2.1 d_MO_pipe_60 rfl (lv_at hl 1 rfl) ?_
              refine ast_i (w' := (mW b t n kd em br ii oo np (va_up ea np i) eb li rn wp wl wf wt wn ct sT sP sa sb rest)) C0 hB 6 0 rfl rfl (by omega) (by decide) up_nI rfl d_MO_pipe_61 (fun H locs hB => ?_)
              refine lv_aload_n C0.1 C0.2.1 d_MO_pipe_62 rfl (lv_at hl 0 rfl) ?_
              refine gf_MO_29 C0 hB.1 0 rfl rfl d_MO_pipe_63 ?_
              refine lv_aload_n C0.1 C0.2.1 d_MO_pipe_66 rfl (lv_at hl 0 rfl) ?_
              refine gf_MO_80 C0 hB.1 0 rfl rfl d_MO_pipe_67 ?_
              refine lv_iload_n C0.1 C0.2.1 d_MO_pipe_70 rfl (lv_at hl 2 rfl) ?_
              refine ast_i (w' := (mW b t n kd em br ii oo np (va_up ea np i) (va_up eb np j) li rn wp wl wf wt wn ct sT sP sa sb rest)) C0 hB 7 0 rfl rfl (by omega) (by decide) up_nI rfl d_MO_pipe_71 (fun H locs hB => ?_)
              refine lv_aload_n C0.1 C0.2.1 d_MO_pipe_72 rfl (lv_at hl 0 rfl) ?_
              refine gf_MO_32 C0 hB.1 0 rfl rfl d_MO_pipe_73 ?_
              refine lv_aload_n C0.1 C0.2.1 d_MO_pipe_76 rfl (lv_at hl 0 rfl) ?_
              refine gf_MO_80 C0 hB.1 0 rfl rfl d_MO_pipe_77 ?_
              refine lv_lload_n C0.1 C0.2.1 d_MO_pipe_80 rfl (lv_at hl 3 rfl) ?_
              refine ast_l (w' := (mW b t n kd em br ii oo np (va_up ea np i) (va_up eb np j) (va_up li np k) rn wp wl wf wt wn ct sT sP sa sb rest)) C0 hB 8 2 rfl rfl (by omega) (by decide) up_lN rfl d_MO_pipe_81 (fun H locs hB => ?_)
              refine lv_aload_n C0.1 C0.2.1 d_MO_pipe_82 rfl (lv_at hl 0 rfl) ?_
              refine lv_dup C0.1 C0.2.1 d_MO_pipe_83 rfl ?_
              refine gf_MO_80 C0 hB.1 0 rfl rfl d_MO_pipe_84 ?_
              refine lv_iconst (v := nI 1) C0.1 C0.2.1 d_MO_pipe_87 (by decide) ?_
              refine lv_iadd C0.1 C0.2.1 d_MO_pipe_88 ?_
              refine ti (show (nI np) + (nI 1) = nI (np + 1) from nI_add _ _) ?_
              refine pf_MO_80 (w' := (mW b t n kd em br ii oo (np + 1) (va_up ea np i) (va_up eb np j) (va_up li np k) rn wp wl wf wt wn ct sT sP sa sb rest)) C0 hB 0 rfl (Nat.le_of_ble_eq_true rfl) rfl rfl rfl d_MO_pipe_89 (fun H locs hB => ?_)
              refine lv_aload_n C0.1 C0.2.1 d_MO_pipe_92 rfl (lv_at hl 0 rfl) ?_
              refine gf_MO_80 C0 hB.1 0 rfl rfl d_MO_pipe_93 ?_
              refine lv_iconst (v := nI 1) C0.1 C0.2.1 d_MO_pipe_96 (by decide) ?_
              refine lv_isub C0.1 C0.2.1 d_MO_pipe_97 ?_
              refine ti (show (nI (np + 1)) - (nI 1) = nI np from (pk_sub (by omega) : nI (np + 1) - nI 1 = nI (np + 1 - 1))) ?_
              exact eM_i C0 hr hlk () hB (rfl) (Nat.le_refl _) (Nat.le_refl _) d_MO_pipe_98
            · exact absurd ((nI_eq (by omega) (by decide)).mp c_46) (by omega)
          · exact absurd ((lg_cmp_le _ _).mpr ((pk_lLE (by omega) (by decide)).mpr hk2)) c_35
    · exact absurd (bI_0.mp c_13) (by rw [hasB_nI (by omega), decide_eq_true hj]; decide)
theorem up_id {f : Nat → Bool} {k : Nat} {v : Bool} (h : f k = v) : va_up f k v = f := by
  funext j
  by_cases e : j = k
  · rw [e, va_up_self, h]
  · rw [va_up_ne _ _ e]
set_option maxHeartbeats 4000000 in
set_option maxRecDepth 100000 in
theorem c_MO_run_no (x : Int32) (b0 : Bool) (hn : np ≤ 96) (hno : hasB np x = false) : Rd l y_MO_run w_MO_run ({ frames := 0, cells := 0, slots := 0, locals := 0 }) g classes (tyL t) [.ref (b 0), .int x, .int (bI b0)] (mW b t n kd em br ii oo np ea eb li rn wp wl wf wt wn ct sT sP sa sb rest) (some (.int (bI false))) := by
  refine Rd.of (cc := b_MO_run) (maxL := 3) (ret := (some .boolean)) (own := R_MO) (by decide) rfl rfl (Nat.le_of_ble_eq_true rfl) ?_
  intro p e s m args below meth c C0 hr hlk hP ls hl
  have hl : lv_has ls 3 [(0, .ref (b 0)), (1, .int x), (2, .int (bI b0))] := hl
  refine lv_iload_n C0.1 C0.2.1 d_MO_run_0 rfl (lv_at hl 1 rfl) ?_
  refine lv_if_lt (tgt := 22) C0.1 C0.2.1 d_MO_run_1 (by decide) (fun c_1 => ?_) (fun c_1 => ?_)
  · refine lv_iconst (v := nI 0) C0.1 C0.2.1 d_MO_run_22 (by decide) ?_
    exact eR_z C0 hr hlk (b := false) (rfl) rfl d_MO_run_23
  · refine lv_iload_n C0.1 C0.2.1 d_MO_run_4 rfl (lv_at hl 1 rfl) ?_
    refine lv_aload_n C0.1 C0.2.1 d_MO_run_5 rfl (lv_at hl 0 rfl) ?_
    refine gf_MO_80 C0 hP 0 rfl rfl d_MO_run_6 ?_
    refine lv_icmp_ge (tgt := 22) C0.1 C0.2.1 d_MO_run_9 (by decide) (fun c_9 => ?_) (fun c_9 => ?_)
    · refine lv_iconst (v := nI 0) C0.1 C0.2.1 d_MO_run_22 (by decide) ?_
      exact eR_z C0 hr hlk (b := false) (rfl) rfl d_MO_run_23
    · exact absurd (hasB_t (by omega) c_1 c_9) (by rw [hno]; decide)
set_option maxHeartbeats 4000000 in
set_option maxRecDepth 100000 in
theorem c_MO_run (p0 : Nat) (b0 : Bool) (hn : np ≤ 96) (hp0 : p0 < np) : Mt l y_MO_run w_MO_run ({ frames := 0, cells := 0, slots := 0, locals := 0 }) g classes (tyL t) [.ref (b 0), .int (nI p0), .int (bI b0)] (mW b t n kd em br ii oo np ea eb li rn wp wl wf wt wn ct sT sP sa sb rest) (S := Unit) (fun v _ => v = some (.int (bI (decide (¬ rn p0 = b0))))) (fun _ => (mW b t n kd em br ii oo np ea eb li (va_up rn p0 b0) wp wl wf wt wn ct sT sP sa sb rest)) 0 0 := by
  refine Mt.of (cc := b_MO_run) (maxL := 3) (ret := (some .boolean)) (own := R_MO) (by decide) rfl rfl (Nat.le_of_ble_eq_true rfl) ?_
  intro p e s m args below meth c C0 hr hlk hin A hA hB ls hl
  have hl : lv_has ls 3 [(0, .ref (b 0)), (1, .int (nI p0)), (2, .int (bI b0))] := hl
  refine lv_iload_n C0.1 C0.2.1 d_MO_run_0 rfl (lv_at hl 1 rfl) ?_
  refine lv_if_lt (tgt := 22) C0.1 C0.2.1 d_MO_run_1 (by decide) (fun c_1 => ?_) (fun c_1 => ?_)
  · exact absurd c_1 (nI_pos (by omega))
  · refine lv_iload_n C0.1 C0.2.1 d_MO_run_4 rfl (lv_at hl 1 rfl) ?_
    refine lv_aload_n C0.1 C0.2.1 d_MO_run_5 rfl (lv_at hl 0 rfl) ?_
    refine gf_MO_80 C0 hB.1 0 rfl rfl d_MO_run_6 ?_
    refine lv_icmp_ge (tgt := 22) C0.1 C0.2.1 d_MO_run_9 (by decide) (fun c_9 => ?_) (fun c_9 => ?_)
    · exact absurd ((nI_leI (by omega) (by omega)).mp c_9) (by omega)
    · refine lv_aload_n C0.1 C0.2.1 d_MO_run_12 rfl (lv_at hl 0 rfl) ?_
      refine gf_MO_36 C0 hB.1 0 rfl rfl d_MO_run_13 ?_
      refine lv_iload_n C0.1 C0.2.1 d_MO_run_16 rfl (lv_at hl 1 rfl) ?_
      refine ald_z C0 hB.1 9 1 rfl rfl (by omega) (by decide) d_MO_run_17 ?_
      refine lv_iload_n C0.1 C0.2.1 d_MO_run_18 rfl (lv_at hl 2 rfl) ?_
      refine lv_icmp_ne (tgt := 24) C0.1 C0.2.1 d_MO_run_19 (by decide) (fun c_19 => ?_) (fun c_19 => ?_)
      · have e0 : ¬ rn p0 = b0 := fun q => c_19 (by rw [q])
        refine lv_aload_n C0.1 C0.2.1 d_MO_run_24 rfl (lv_at hl 0 rfl) ?_
        refine gf_MO_36 C0 hB.1 0 rfl rfl d_MO_run_25 ?_
        refine lv_iload_n C0.1 C0.2.1 d_MO_run_28 rfl (lv_at hl 1 rfl) ?_
        refine lv_iload_n C0.1 C0.2.1 d_MO_run_29 rfl (lv_at hl 2 rfl) ?_
        refine ast_z (w' := (mW b t n kd em br ii oo np ea eb li (va_up rn p0 b0) wp wl wf wt wn ct sT sP sa sb rest)) C0 hB 9 1 rfl rfl (by omega) (by decide) up_bI rfl d_MO_run_30 (fun H locs hB => ?_)
        refine lv_iconst (v := nI 1) C0.1 C0.2.1 d_MO_run_31 (by decide) ?_
        exact eM_z C0 hr hlk (b := (decide (¬ rn p0 = b0))) () (by rw [decide_eq_true e0]; rfl) hB rfl (Nat.le_refl _) (Nat.le_refl _) d_MO_run_32
      · have e0 : rn p0 = b0 := bI_inj.mp c_19
        refine lv_iconst (v := nI 0) C0.1 C0.2.1 d_MO_run_22 (by decide) ?_
        exact eM_z C0 hr hlk (b := (decide (¬ rn p0 = b0))) () (by rw [decide_eq_false (fun q => q e0)]; rfl) (show wB g classes A s.heap (mW b t n kd em br ii oo np ea eb li (va_up rn p0 b0) wp wl wf wt wn ct sT sP sa sb rest) _ _ by rw [show va_up rn p0 b0 = rn from up_id e0]; exact hB) rfl (Nat.le_refl _) (Nat.le_refl _) d_MO_run_23
set_option maxHeartbeats 4000000 in
set_option maxRecDepth 100000 in
theorem c_MO_bar_no (x : Int32) (b0 : Bool) (hn : n ≤ 48) (hno : hasB n x = false) : Rd l y_MO_bar w_MO_bar ({ frames := 1, cells := 0, slots := 0, locals := 21 }) g classes (tyL t) [.ref (b 0), .int x, .int (bI b0)] (mW b t n kd em br ii oo np ea eb li rn wp wl wf wt wn ct sT sP sa sb rest) (some (.int (bI false))) := by
  refine Rd.of (cc := b_MO_bar) (maxL := 3) (ret := (some .boolean)) (own := R_MO) (by decide) rfl rfl (Nat.le_of_ble_eq_true rfl) ?_
  intro p e s m args below meth c C0 hr hlk hP ls hl
  have hl : lv_has ls 3 [(0, .ref (b 0)), (1, .int x), (2, .int (bI b0))] := hl
  refine lv_aload_n C0.1 C0.2.1 d_MO_bar_0 rfl (lv_at hl 0 rfl) ?_
  refine lv_iload_n C0.1 C0.2.1 d_MO_bar_1 rfl (lv_at hl 1 rfl) ?_
  refine cR (As := [.int x]) (rest := []) C0 (c_MO_isThing x hn) (q_MO_74 C0.2.2.2.2.1 rfl rfl ⟨Nat.le_of_ble_eq_true rfl, Nat.le_of_ble_eq_true rfl⟩) (ci := 5) (q0 := 0) rfl rfl rfl hP hl.1 rfl rfl (Nat.le_of_ble_eq_true rfl) d_MO_bar_2 ⟨Nat.zero_le _, Nat.zero_le _⟩ ?_
  refine W.eq (g2 := F0 m 5 ls [.int (bI (hasB n x))]) rfl ?_
  refine lv_if_eq (tgt := 18) C0.1 C0.2.1 d_MO_bar_5 (by decide) (fun c_5 => ?_) (fun c_5 => ?_)
  · refine lv_iconst (v := nI 0) C0.1 C0.2.1 d_MO_bar_18 (by decide) ?_
    exact eR_z C0 hr hlk (b := false) (rfl) rfl d_MO_bar_19
  · exact absurd (by rw [hno]; rfl) c_5
set_option maxHeartbeats 4000000 in
set_option maxRecDepth 100000 in
theorem c_MO_bar (p0 : Nat) (b0 : Bool) (hn : n ≤ 48) (hp0 : p0 < n) : Mt l y_MO_bar w_MO_bar ({ frames := 1, cells := 0, slots := 0, locals := 21 }) g classes (tyL t) [.ref (b 0), .int (nI p0), .int (bI b0)] (mW b t n kd em br ii oo np ea eb li rn wp wl wf wt wn ct sT sP sa sb rest) (S := Unit) (fun v _ => v = some (.int (bI (decide (¬ br p0 = b0))))) (fun _ => (mW b t n kd em (va_up br p0 b0) ii oo np ea eb li rn wp wl wf wt wn ct sT sP sa sb rest)) 0 0 := by
  refine Mt.of (cc := b_MO_bar) (maxL := 3) (ret := (some .boolean)) (own := R_MO) (by decide) rfl rfl (Nat.le_of_ble_eq_true rfl) ?_
  intro p e s m args below meth c C0 hr hlk hin A hA hB ls hl
  have hl : lv_has ls 3 [(0, .ref (b 0)), (1, .int (nI p0)), (2, .int (bI b0))] := hl
  refine lv_aload_n C0.1 C0.2.1 d_MO_bar_0 rfl (lv_at hl 0 rfl) ?_
  refine lv_iload_n C0.1 C0.2.1 d_MO_bar_1 rfl (lv_at hl 1 rfl) ?_
  refine cR (As := [.int (nI p0)]) (rest := []) C0 (c_MO_isThing (nI p0) hn) (q_MO_74 C0.2.2.2.2.1 rfl rfl ⟨Nat.le_of_ble_eq_true rfl, Nat.le_of_ble_eq_true rfl⟩) (ci := 5) (q0 := 0) rfl rfl rfl hB.1 hl.1 rfl rfl (Nat.le_of_ble_eq_true rfl) d_MO_bar_2 ⟨Nat.zero_le _, Nat.zero_le _⟩ ?_
  refine W.eq (g2 := F0 m 5 ls [.int (bI (hasB n (nI p0)))]) rfl ?_
  refine lv_if_eq (tgt := 18) C0.1 C0.2.1 d_MO_bar_5 (by decide) (fun c_5 => ?_) (fun c_5 => ?_)
  · exact absurd (bI_0.mp c_5) (by rw [hasB_nI (by omega), decide_eq_true hp0]; decide)
  · refine lv_aload_n C0.1 C0.2.1 d_MO_bar_8 rfl (lv_at hl 0 rfl) ?_
    refine gf_MO_17 C0 hB.1 0 rfl rfl d_MO_bar_9 ?_
    refine lv_iload_n C0.1 C0.2.1 d_MO_bar_12 rfl (lv_at hl 1 rfl) ?_
    refine ald_z C0 hB.1 3 1 rfl rfl (by omega) (by decide) d_MO_bar_13 ?_
    refine lv_iload_n C0.1 C0.2.1 d_MO_bar_14 rfl (lv_at hl 2 rfl) ?_
    refine lv_icmp_ne (tgt := 20) C0.1 C0.2.1 d_MO_bar_15 (by decide) (fun c_15 => ?_) (fun c_15 => ?_)
    · have e0 : ¬ br p0 = b0 := fun q => c_15 (by rw [q])
      refine lv_aload_n C0.1 C0.2.1 d_MO_bar_20 rfl (lv_at hl 0 rfl) ?_
      refine gf_MO_17 C0 hB.1 0 rfl rfl d_MO_bar_21 ?_
      refine lv_iload_n C0.1 C0.2.1 d_MO_bar_24 rfl (lv_at hl 1 rfl) ?_
      refine lv_iload_n C0.1 C0.2.1 d_MO_bar_25 rfl (lv_at hl 2 rfl) ?_
      refine ast_z (w' := (mW b t n kd em (va_up br p0 b0) ii oo np ea eb li rn wp wl wf wt wn ct sT sP sa sb rest)) C0 hB 3 1 rfl rfl (by omega) (by decide) up_bI rfl d_MO_bar_26 (fun H locs hB => ?_)
      refine lv_iconst (v := nI 1) C0.1 C0.2.1 d_MO_bar_27 (by decide) ?_
      exact eM_z C0 hr hlk (b := (decide (¬ br p0 = b0))) () (by rw [decide_eq_true e0]; rfl) hB rfl (Nat.le_refl _) (Nat.le_refl _) d_MO_bar_28
    · have e0 : br p0 = b0 := bI_inj.mp c_15
      refine lv_iconst (v := nI 0) C0.1 C0.2.1 d_MO_bar_18 (by decide) ?_
      exact eM_z C0 hr hlk (b := (decide (¬ br p0 = b0))) () (by rw [decide_eq_false (fun q => q e0)]; rfl) (show wB g classes A s.heap (mW b t n kd em (va_up br p0 b0) ii oo np ea eb li rn wp wl wf wt wn ct sT sP sa sb rest) _ _ by rw [show va_up br p0 b0 = br from up_id e0]; exact hB) rfl (Nat.le_refl _) (Nat.le_refl _) d_MO_bar_19
set_option maxHeartbeats 4000000 in
set_option maxRecDepth 100000 in
theorem c_MO_joins (p0 : Nat) (x y : Int32) (hp0 : p0 < 96) : Rd l y_MO_joins w_MO_joins ({ frames := 0, cells := 0, slots := 0, locals := 0 }) g classes (tyL t) [.ref (b 0), .int (nI p0), .int x, .int y] (mW b t n kd em br ii oo np ea eb li rn wp wl wf wt wn ct sT sP sa sb rest) (some (.int (bI (joinB ea eb x y p0)))) := by
  refine Rd.of (cc := b_MO_joins) (maxL := 4) (ret := (some .boolean)) (own := R_MO) (by decide) rfl rfl (Nat.le_of_ble_eq_true rfl) ?_
  intro p e s m args below meth c C0 hr hlk hP ls hl
  have hl : lv_has ls 4 [(0, .ref (b 0)), (1, .int (nI p0)), (2, .int x), (3, .int y)] := hl
  refine lv_aload_n C0.1 C0.2.1 d_MO_joins_0 rfl (lv_at hl 0 rfl) ?_
  refine gf_MO_26 C0 hP 0 rfl rfl d_MO_joins_1 ?_
  refine lv_iload_n C0.1 C0.2.1 d_MO_joins_4 rfl (lv_at hl 1 rfl) ?_
  refine ald_i C0 hP 6 0 rfl rfl (by omega) (by decide) d_MO_joins_5 ?_
  refine lv_iload_n C0.1 C0.2.1 d_MO_joins_6 rfl (lv_at hl 2 rfl) ?_
  refine lv_icmp_ne (tgt := 20) C0.1 C0.2.1 d_MO_joins_7 (by decide) (fun c_7 => ?_) (fun c_7 => ?_)
  · refine lv_aload_n C0.1 C0.2.1 d_MO_joins_20 rfl (lv_at hl 0 rfl) ?_
    refine gf_MO_26 C0 hP 0 rfl rfl d_MO_joins_21 ?_
    refine lv_iload_n C0.1 C0.2.1 d_MO_joins_24 rfl (lv_at hl 1 rfl) ?_
    refine ald_i C0 hP 6 0 rfl rfl (by omega) (by decide) d_MO_joins_25 ?_
    refine lv_iload_n C0.1 C0.2.1 d_MO_joins_26 rfl (lv_at hl 3 rfl) ?_
    refine lv_icmp_ne (tgt := 44) C0.1 C0.2.1 d_MO_joins_27 (by decide) (fun c_27 => ?_) (fun c_27 => ?_)
    · refine lv_iconst (v := nI 0) C0.1 C0.2.1 d_MO_joins_44 (by decide) ?_
      exact eR_z C0 hr hlk (b := joinB ea eb x y p0) (by unfold joinB; rw [show (decide (nI (ea p0) = x) && decide (nI (eb p0) = y)) = false by rw [decide_eq_false c_7]; rfl, decide_eq_false c_27]; rfl) rfl d_MO_joins_45
    · refine lv_aload_n C0.1 C0.2.1 d_MO_joins_30 rfl (lv_at hl 0 rfl) ?_
      refine gf_MO_29 C0 hP 0 rfl rfl d_MO_joins_31 ?_
      refine lv_iload_n C0.1 C0.2.1 d_MO_joins_34 rfl (lv_at hl 1 rfl) ?_
      refine ald_i C0 hP 7 0 rfl rfl (by omega) (by decide) d_MO_joins_35 ?_
      refine lv_iload_n C0.1 C0.2.1 d_MO_joins_36 rfl (lv_at hl 2 rfl) ?_
      refine lv_icmp_ne (tgt := 44) C0.1 C0.2.1 d_MO_joins_37 (by decide) (fun c_37 => ?_) (fun c_37 => ?_)
      · refine lv_iconst (v := nI 0) C0.1 C0.2.1 d_MO_joins_44 (by decide) ?_
        exact eR_z C0 hr hlk (b := joinB ea eb x y p0) (by unfold joinB; rw [show (decide (nI (ea p0) = x) && decide (nI (eb p0) = y)) = false by rw [decide_eq_false c_7]; rfl, decide_eq_false c_37, Bool.and_false]; rfl) rfl d_MO_joins_45
      · refine lv_iconst (v := nI 1) C0.1 C0.2.1 d_MO_joins_40 (by decide) ?_
        refine lv_goto (tgt := 45) C0.1 C0.2.1 d_MO_joins_41 (by decide) ?_
        exact eR_z C0 hr hlk (b := joinB ea eb x y p0) (by unfold joinB; rw [decide_eq_true c_27, decide_eq_true c_37, Bool.and_self, Bool.or_true]; rfl) rfl d_MO_joins_45
  · refine lv_aload_n C0.1 C0.2.1 d_MO_joins_10 rfl (lv_at hl 0 rfl) ?_
    refine gf_MO_29 C0 hP 0 rfl rfl d_MO_joins_11 ?_
    refine lv_iload_n C0.1 C0.2.1 d_MO_joins_14 rfl (lv_at hl 1 rfl) ?_
    refine ald_i C0 hP 7 0 rfl rfl (by omega) (by decide) d_MO_joins_15 ?_
    refine lv_iload_n C0.1 C0.2.1 d_MO_joins_16 rfl (lv_at hl 3 rfl) ?_
    refine lv_icmp_eq (tgt := 40) C0.1 C0.2.1 d_MO_joins_17 (by decide) (fun c_17 => ?_) (fun c_17 => ?_)
    · refine lv_iconst (v := nI 1) C0.1 C0.2.1 d_MO_joins_40 (by decide) ?_
      refine lv_goto (tgt := 45) C0.1 C0.2.1 d_MO_joins_41 (by decide) ?_
      exact eR_z C0 hr hlk (b := joinB ea eb x y p0) (by unfold joinB; rw [decide_eq_true c_7, decide_eq_true c_17]; rfl) rfl d_MO_joins_45
    · refine lv_aload_n C0.1 C0.2.1 d_MO_joins_20 rfl (lv_at hl 0 rfl) ?_
      refine gf_MO_26 C0 hP 0 rfl rfl d_MO_joins_21 ?_
      refine lv_iload_n C0.1 C0.2.1 d_MO_joins_24 rfl (lv_at hl 1 rfl) ?_
      refine ald_i C0 hP 6 0 rfl rfl (by omega) (by decide) d_MO_joins_25 ?_
      refine lv_iload_n C0.1 C0.2.1 d_MO_joins_26 rfl (lv_at hl 3 rfl) ?_
      refine lv_icmp_ne (tgt := 44) C0.1 C0.2.1 d_MO_joins_27 (by decide) (fun c_27 => ?_) (fun c_27 => ?_)
      · refine lv_iconst (v := nI 0) C0.1 C0.2.1 d_MO_joins_44 (by decide) ?_
        exact eR_z C0 hr hlk (b := joinB ea eb x y p0) (by unfold joinB; rw [show (decide (nI (ea p0) = x) && decide (nI (eb p0) = y)) = false by rw [decide_eq_false c_17, Bool.and_false], decide_eq_false c_27]; rfl) rfl d_MO_joins_45
      · refine lv_aload_n C0.1 C0.2.1 d_MO_joins_30 rfl (lv_at hl 0 rfl) ?_
        refine gf_MO_29 C0 hP 0 rfl rfl d_MO_joins_31 ?_
        refine lv_iload_n C0.1 C0.2.1 d_MO_joins_34 rfl (lv_at hl 1 rfl) ?_
        refine ald_i C0 hP 7 0 rfl rfl (by omega) (by decide) d_MO_joins_35 ?_
        refine lv_iload_n C0.1 C0.2.1 d_MO_joins_36 rfl (lv_at hl 2 rfl) ?_
        refine lv_icmp_ne (tgt := 44) C0.1 C0.2.1 d_MO_joins_37 (by decide) (fun c_37 => ?_) (fun c_37 => ?_)
        · refine lv_iconst (v := nI 0) C0.1 C0.2.1 d_MO_joins_44 (by decide) ?_
          exact eR_z C0 hr hlk (b := joinB ea eb x y p0) (by unfold joinB; rw [show (decide (nI (ea p0) = x) && decide (nI (eb p0) = y)) = false by rw [decide_eq_false c_17, Bool.and_false], decide_eq_false c_37, Bool.and_false]; rfl) rfl d_MO_joins_45
        · refine lv_iconst (v := nI 1) C0.1 C0.2.1 d_MO_joins_40 (by decide) ?_
          refine lv_goto (tgt := 45) C0.1 C0.2.1 d_MO_joins_41 (by decide) ?_
          exact eR_z C0 hr hlk (b := joinB ea eb x y p0) (by unfold joinB; rw [decide_eq_true c_27, decide_eq_true c_37, Bool.and_self, Bool.or_true]; rfl) rfl d_MO_joins_45
set_option maxHeartbeats 4000000 in
set_option maxRecDepth 100000 in
theorem c_MO_areJoined (x y : Int32) (hnp : np ≤ 96) : Rd l y_MO_areJoined w_MO_areJoined ({ frames := 1, cells := 0, slots := 0, locals := 23 }) g classes (tyL t) [.ref (b 0), .int x, .int y] (mW b t n kd em br ii oo np ea eb li rn wp wl wf wt wn ct sT sP sa sb rest) (some (.int (bI (anyN (joinB ea eb x y) np)))) := by
  refine Rd.of (cc := b_MO_areJoined) (maxL := 5) (ret := (some .boolean)) (own := R_MO) (by decide) rfl rfl (Nat.le_of_ble_eq_true rfl) ?_
  intro p e s m args below meth c C0 hr hlk hP ls hl
  have hl : lv_has ls 5 [(0, .ref (b 0)), (1, .int x), (2, .int y)] := hl
  refine lv_iconst (v := bI (anyN (joinB ea eb x y) 0)) C0.1 C0.2.1 d_MO_areJoined_0 rfl ?_
  refine lv_istore_n (lv' := [(3, .int (bI (anyN (joinB ea eb x y) 0))), (0, .ref (b 0)), (1, .int x), (2, .int y)]) C0.1 C0.2.1 d_MO_areJoined_1 rfl hl (by decide) rfl (fun ls hl => ?_)
  refine lv_iconst (v := nI 0) C0.1 C0.2.1 d_MO_areJoined_2 (by decide) ?_
  refine lv_istore (lv' := [(4, .int (nI 0)), (3, .int (bI (anyN (joinB ea eb x y) 0))), (0, .ref (b 0)), (1, .int x), (2, .int y)]) C0.1 C0.2.1 d_MO_areJoined_3 hl (by decide) rfl (fun ls hl => ?_)
  refine wlR (σ := Nat) (head := 5) (fun z_ => np - z_) (fun z_ => z_ ≤ np) (fun z_ => [(0, .ref (b 0)), (1, .int x), (2, .int y), (3, .int (bI (anyN (joinB ea eb x y) z_))), (4, .int (nI z_))]) ?_ 0 (show 0 ≤ np from Nat.zero_le _) (lv_sub hl [2, 3, 4, 1, 0] rfl)
  rintro j hi ih_5 ls hl
  have hi : j ≤ np := hi
  have hl : lv_has ls 5 [(0, .ref (b 0)), (1, .int x), (2, .int y), (3, .int (bI (anyN (joinB ea eb x y) j))), (4, .int (nI j))] := hl
  refine lv_iload C0.1 C0.2.1 d_MO_areJoined_5 (lv_at hl 4 rfl) ?_
  refine lv_aload_n C0.1 C0.2.1 d_MO_areJoined_7 rfl (lv_at hl 0 rfl) ?_
  refine gf_MO_80 C0 hP 0 rfl rfl d_MO_areJoined_8 ?_
  refine lv_icmp_ge (tgt := 31) C0.1 C0.2.1 d_MO_areJoined_11 (by decide) (fun c_11 => ?_) (fun c_11 => ?_)
  · have hj : j = np := by have := (nI_leI (by omega) (by omega)).mp c_11; omega
    refine lv_iload_n C0.1 C0.2.1 d_MO_areJoined_31 rfl (lv_at hl 3 rfl) ?_
    exact eR_z C0 hr hlk (b := anyN (joinB ea eb x y) np) (by rw [hj]) rfl d_MO_areJoined_32
  · have hj : j < np := (nI_nle' (by omega) (by omega)).mp c_11
    refine lv_iload_n C0.1 C0.2.1 d_MO_areJoined_14 rfl (lv_at hl 3 rfl) ?_
    refine lv_aload_n C0.1 C0.2.1 d_MO_areJoined_15 rfl (lv_at hl 0 rfl) ?_
    refine lv_iload C0.1 C0.2.1 d_MO_areJoined_16 (lv_at hl 4 rfl) ?_
    refine lv_iload_n C0.1 C0.2.1 d_MO_areJoined_18 rfl (lv_at hl 1 rfl) ?_
    refine lv_iload_n C0.1 C0.2.1 d_MO_areJoined_19 rfl (lv_at hl 2 rfl) ?_
    refine cR (As := [.int (nI j), .int x, .int y]) (rest := [.int (bI (anyN (joinB ea eb x y) j))]) C0 (c_MO_joins j x y (by omega)) (q_MO_83 C0.2.2.2.2.1 rfl rfl ⟨Nat.le_of_ble_eq_true rfl, Nat.le_of_ble_eq_true rfl⟩) (ci := 5) (q0 := 0) rfl rfl rfl hP hl.1 rfl rfl (Nat.le_of_ble_eq_true rfl) d_MO_areJoined_20 ⟨Nat.zero_le _, Nat.zero_le _⟩ ?_
    refine W.eq (g2 := F0 m 23 ls [.int (bI (joinB ea eb x y j)), .int (bI (anyN (joinB ea eb x y) j))]) rfl ?_
    refine lv_ior C0.1 C0.2.1 d_MO_areJoined_23 ?_
    refine ti (show (bI (anyN (joinB ea eb x y) j)) ||| (bI (joinB ea eb x y j)) = bI (anyN (joinB ea eb x y) (j + 1)) from bI_or) ?_
    refine lv_istore_n (lv' := [(3, .int (bI (anyN (joinB ea eb x y) (j + 1)))), (0, .ref (b 0)), (1, .int x), (2, .int y), (4, .int (nI j))]) C0.1 C0.2.1 d_MO_areJoined_24 rfl hl (by decide) rfl (fun ls hl => ?_)
    refine lv_iinc (v := nI (j + 1)) (lv' := [(4, .int (nI (j + 1))), (3, .int (bI (anyN (joinB ea eb x y) (j + 1)))), (0, .ref (b 0)), (1, .int x), (2, .int y)]) C0.1 C0.2.1 d_MO_areJoined_25 hl (k := 4) rfl (inc1 _) (by decide) rfl (fun ls hl => ?_)
    refine lv_goto (tgt := 5) C0.1 C0.2.1 d_MO_areJoined_28 (by decide) ?_
    exact ih_5 (j + 1) (show (j + 1) ≤ np from by omega) (show np - (j + 1) < np - j from by omega) ls (lv_sub hl [2, 3, 4, 1, 0] rfl)
set_option maxHeartbeats 4000000 in
set_option maxRecDepth 100000 in
theorem c_MO_goes (p0 u v : Nat) (hp0 : p0 < 96) (hu : u < 48) (hv : v < 48) (hk : ∀ j, kd j < 3) : Rd l y_MO_goes w_MO_goes ({ frames := 0, cells := 0, slots := 0, locals := 0 }) g classes (tyL t) [.ref (b 0), .int (nI p0), .int (nI u), .int (nI v)] (mW b t n kd em br ii oo np ea eb li rn wp wl wf wt wn ct sT sP sa sb rest) (some (.int (bI (goB kd ii oo sT sP p0 u v)))) := by
  refine Rd.of (cc := b_MO_goes) (maxL := 4) (ret := (some .boolean)) (own := R_MO) (by decide) rfl rfl (Nat.le_of_ble_eq_true rfl) ?_
  intro p e s m args below meth c C0 hr hlk hP ls hl
  have hl : lv_has ls 4 [(0, .ref (b 0)), (1, .int (nI p0)), (2, .int (nI u)), (3, .int (nI v))] := hl
  refine lv_aload_n C0.1 C0.2.1 d_MO_goes_0 rfl (lv_at hl 0 rfl) ?_
  refine gf_MO_57 C0 hP 0 rfl rfl d_MO_goes_1 ?_
  refine lv_iload_n C0.1 C0.2.1 d_MO_goes_4 rfl (lv_at hl 1 rfl) ?_
  refine ald_z C0 hP 16 1 rfl rfl (by omega) (by decide) d_MO_goes_5 ?_
  refine lv_if_ne (tgt := 71) C0.1 C0.2.1 d_MO_goes_6 (by decide) (fun c_6 => ?_) (fun c_6 => ?_)
  · refine lv_iconst (v := nI 0) C0.1 C0.2.1 d_MO_goes_71 (by decide) ?_
    exact eR_z C0 hr hlk (b := goB kd ii oo sT sP p0 u v) (by rw [go_1 (bI_n0.mp c_6)]; rfl) rfl d_MO_goes_72
  · refine lv_aload_n C0.1 C0.2.1 d_MO_goes_9 rfl (lv_at hl 0 rfl) ?_
    refine gf_MO_54 C0 hP 0 rfl rfl d_MO_goes_10 ?_
    refine lv_iload_n C0.1 C0.2.1 d_MO_goes_13 rfl (lv_at hl 2 rfl) ?_
    refine ald_z C0 hP 15 1 rfl rfl (by omega) (by decide) d_MO_goes_14 ?_
    refine lv_if_ne (tgt := 71) C0.1 C0.2.1 d_MO_goes_15 (by decide) (fun c_15 => ?_) (fun c_15 => ?_)
    · refine lv_iconst (v := nI 0) C0.1 C0.2.1 d_MO_goes_71 (by decide) ?_
      exact eR_z C0 hr hlk (b := goB kd ii oo sT sP p0 u v) (by rw [go_2 (bI_n0.mp c_15)]; rfl) rfl d_MO_goes_72
    · refine lv_aload_n C0.1 C0.2.1 d_MO_goes_18 rfl (lv_at hl 0 rfl) ?_
      refine gf_MO_54 C0 hP 0 rfl rfl d_MO_goes_19 ?_
      refine lv_iload_n C0.1 C0.2.1 d_MO_goes_22 rfl (lv_at hl 3 rfl) ?_
      refine ald_z C0 hP 15 1 rfl rfl (by omega) (by decide) d_MO_goes_23 ?_
      refine lv_if_ne (tgt := 71) C0.1 C0.2.1 d_MO_goes_24 (by decide) (fun c_24 => ?_) (fun c_24 => ?_)
      · refine lv_iconst (v := nI 0) C0.1 C0.2.1 d_MO_goes_71 (by decide) ?_
        exact eR_z C0 hr hlk (b := goB kd ii oo sT sP p0 u v) (by rw [go_3 (bI_n0.mp c_24)]; rfl) rfl d_MO_goes_72
      · refine lv_aload_n C0.1 C0.2.1 d_MO_goes_27 rfl (lv_at hl 0 rfl) ?_
        refine gf_MO_9 C0 hP 0 rfl rfl d_MO_goes_28 ?_
        refine lv_iload_n C0.1 C0.2.1 d_MO_goes_31 rfl (lv_at hl 2 rfl) ?_
        refine ald_i C0 hP 1 0 rfl rfl (by omega) (by decide) d_MO_goes_32 ?_
        refine lv_iconst (v := nI 1) C0.1 C0.2.1 d_MO_goes_33 (by decide) ?_
        refine lv_icmp_ne (tgt := 47) C0.1 C0.2.1 d_MO_goes_34 (by decide) (fun c_34 => ?_) (fun c_34 => ?_)
        · have g1 : (decide (kd u ≠ 1) || decide (oo u = nI v)) = true := lb_1 c_34
          refine lv_aload_n C0.1 C0.2.1 d_MO_goes_47 rfl (lv_at hl 0 rfl) ?_
          refine gf_MO_9 C0 hP 0 rfl rfl d_MO_goes_48 ?_
          refine lv_iload_n C0.1 C0.2.1 d_MO_goes_51 rfl (lv_at hl 3 rfl) ?_
          refine ald_i C0 hP 1 0 rfl rfl (by omega) (by decide) d_MO_goes_52 ?_
          refine lv_iconst (v := nI 1) C0.1 C0.2.1 d_MO_goes_53 (by decide) ?_
          refine lv_icmp_ne (tgt := 67) C0.1 C0.2.1 d_MO_goes_54 (by decide) (fun c_54 => ?_) (fun c_54 => ?_)
          · refine lv_iconst (v := nI 1) C0.1 C0.2.1 d_MO_goes_67 (by decide) ?_
            refine lv_goto (tgt := 72) C0.1 C0.2.1 d_MO_goes_68 (by decide) ?_
            exact eR_z C0 hr hlk (b := goB kd ii oo sT sP p0 u v) (by rw [go_5 (bI_0.mp c_6) (bI_0.mp c_15) (bI_0.mp c_24) (let_t g1 (lb_1 c_54))]; rfl) rfl d_MO_goes_72
          · refine lv_aload_n C0.1 C0.2.1 d_MO_goes_57 rfl (lv_at hl 0 rfl) ?_
            refine gf_MO_20 C0 hP 0 rfl rfl d_MO_goes_58 ?_
            refine lv_iload_n C0.1 C0.2.1 d_MO_goes_61 rfl (lv_at hl 3 rfl) ?_
            refine ald_i C0 hP 4 0 rfl rfl (by omega) (by decide) d_MO_goes_62 ?_
            refine lv_iload_n C0.1 C0.2.1 d_MO_goes_63 rfl (lv_at hl 2 rfl) ?_
            refine lv_icmp_ne (tgt := 71) C0.1 C0.2.1 d_MO_goes_64 (by decide) (fun c_64 => ?_) (fun c_64 => ?_)
            · refine lv_iconst (v := nI 0) C0.1 C0.2.1 d_MO_goes_71 (by decide) ?_
              exact eR_z C0 hr hlk (b := goB kd ii oo sT sP p0 u v) (by rw [go_4 (let_2 (by have := hk v; omega) c_54 c_64)]; rfl) rfl d_MO_goes_72
            · refine lv_iconst (v := nI 1) C0.1 C0.2.1 d_MO_goes_67 (by decide) ?_
              refine lv_goto (tgt := 72) C0.1 C0.2.1 d_MO_goes_68 (by decide) ?_
              exact eR_z C0 hr hlk (b := goB kd ii oo sT sP p0 u v) (by rw [go_5 (bI_0.mp c_6) (bI_0.mp c_15) (bI_0.mp c_24) (let_t g1 (lb_2 c_64))]; rfl) rfl d_MO_goes_72
        · refine lv_aload_n C0.1 C0.2.1 d_MO_goes_37 rfl (lv_at hl 0 rfl) ?_
          refine gf_MO_23 C0 hP 0 rfl rfl d_MO_goes_38 ?_
          refine lv_iload_n C0.1 C0.2.1 d_MO_goes_41 rfl (lv_at hl 2 rfl) ?_
          refine ald_i C0 hP 5 0 rfl rfl (by omega) (by decide) d_MO_goes_42 ?_
          refine lv_iload_n C0.1 C0.2.1 d_MO_goes_43 rfl (lv_at hl 3 rfl) ?_
          refine lv_icmp_ne (tgt := 71) C0.1 C0.2.1 d_MO_goes_44 (by decide) (fun c_44 => ?_) (fun c_44 => ?_)
          · refine lv_iconst (v := nI 0) C0.1 C0.2.1 d_MO_goes_71 (by decide) ?_
            exact eR_z C0 hr hlk (b := goB kd ii oo sT sP p0 u v) (by rw [go_4 (let_1 (by have := hk u; omega) c_34 c_44)]; rfl) rfl d_MO_goes_72
          · have g1 : (decide (kd u ≠ 1) || decide (oo u = nI v)) = true := lb_2 c_44
            refine lv_aload_n C0.1 C0.2.1 d_MO_goes_47 rfl (lv_at hl 0 rfl) ?_
            refine gf_MO_9 C0 hP 0 rfl rfl d_MO_goes_48 ?_
            refine lv_iload_n C0.1 C0.2.1 d_MO_goes_51 rfl (lv_at hl 3 rfl) ?_
            refine ald_i C0 hP 1 0 rfl rfl (by omega) (by decide) d_MO_goes_52 ?_
            refine lv_iconst (v := nI 1) C0.1 C0.2.1 d_MO_goes_53 (by decide) ?_
            refine lv_icmp_ne (tgt := 67) C0.1 C0.2.1 d_MO_goes_54 (by decide) (fun c_54 => ?_) (fun c_54 => ?_)
            · refine lv_iconst (v := nI 1) C0.1 C0.2.1 d_MO_goes_67 (by decide) ?_
              refine lv_goto (tgt := 72) C0.1 C0.2.1 d_MO_goes_68 (by decide) ?_
              exact eR_z C0 hr hlk (b := goB kd ii oo sT sP p0 u v) (by rw [go_5 (bI_0.mp c_6) (bI_0.mp c_15) (bI_0.mp c_24) (let_t g1 (lb_1 c_54))]; rfl) rfl d_MO_goes_72
            · refine lv_aload_n C0.1 C0.2.1 d_MO_goes_57 rfl (lv_at hl 0 rfl) ?_
              refine gf_MO_20 C0 hP 0 rfl rfl d_MO_goes_58 ?_
              refine lv_iload_n C0.1 C0.2.1 d_MO_goes_61 rfl (lv_at hl 3 rfl) ?_
              refine ald_i C0 hP 4 0 rfl rfl (by omega) (by decide) d_MO_goes_62 ?_
              refine lv_iload_n C0.1 C0.2.1 d_MO_goes_63 rfl (lv_at hl 2 rfl) ?_
              refine lv_icmp_ne (tgt := 71) C0.1 C0.2.1 d_MO_goes_64 (by decide) (fun c_64 => ?_) (fun c_64 => ?_)
              · refine lv_iconst (v := nI 0) C0.1 C0.2.1 d_MO_goes_71 (by decide) ?_
                exact eR_z C0 hr hlk (b := goB kd ii oo sT sP p0 u v) (by rw [go_4 (let_2 (by have := hk v; omega) c_54 c_64)]; rfl) rfl d_MO_goes_72
              · refine lv_iconst (v := nI 1) C0.1 C0.2.1 d_MO_goes_67 (by decide) ?_
                refine lv_goto (tgt := 72) C0.1 C0.2.1 d_MO_goes_68 (by decide) ?_
                exact eR_z C0 hr hlk (b := goB kd ii oo sT sP p0 u v) (by rw [go_5 (bI_0.mp c_6) (bI_0.mp c_15) (bI_0.mp c_24) (let_t g1 (lb_2 c_64))]; rfl) rfl d_MO_goes_72
end MODEL1
end

section
-- ===== PART A: goes FIRST, ahead of the names: the tables' words, and 'selects' of the private methods out of them =====
/-- a private method of a class that the tables say can be made, by its rows of tables_1 -/
def lw_okq (q : MethodName × Nat) : Prop := (q.1.cls ≠ "java/lang/invoke/MethodHandle" ∧ q.1.cls ≠ "java/lang/invoke/VarHandle") ∧ Cond.instantiable q.1.cls q.2 ∈ tables_1 ∧ Cond.privateMethod q.1 ∈ tables_1 ∧ Cond.instanceMethod q.1 ∈ tables_1
theorem lw_p0 : lw_okq (⟨"WaySearch", "refusalOfEnds", "(II)I"⟩, 5) := ⟨⟨by decide +kernel, by decide +kernel⟩, List.mem_of_getElem? (i := 11) (by decide +kernel), List.mem_of_getElem? (i := 193) (by decide +kernel), List.mem_of_getElem? (i := 194) (by decide +kernel)⟩
theorem lw_p1 : lw_okq (⟨"WaySearch", "keep", "(LWaySearch$FoundWay;)I"⟩, 5) := ⟨⟨by decide +kernel, by decide +kernel⟩, List.mem_of_getElem? (i := 11) (by decide +kernel), List.mem_of_getElem? (i := 293) (by decide +kernel), List.mem_of_getElem? (i := 294) (by decide +kernel)⟩
theorem lw_p2 : lw_okq (⟨"WaySearch", "wayNumbered", "(I)LWaySearch$FoundWay;"⟩, 5) := ⟨⟨by decide +kernel, by decide +kernel⟩, List.mem_of_getElem? (i := 11) (by decide +kernel), List.mem_of_getElem? (i := 301) (by decide +kernel), List.mem_of_getElem? (i := 302) (by decide +kernel)⟩
theorem lw_p3 : lw_okq (⟨"WaySearch", "countLooseThings", "()I"⟩, 5) := ⟨⟨by decide +kernel, by decide +kernel⟩, List.mem_of_getElem? (i := 11) (by decide +kernel), List.mem_of_getElem? (i := 351) (by decide +kernel), List.mem_of_getElem? (i := 352) (by decide +kernel)⟩
theorem lw_p4 : lw_okq (⟨"WaySearchModel", "thing", "(I)I"⟩, 21) := ⟨⟨by decide +kernel, by decide +kernel⟩, List.mem_of_getElem? (i := 367) (by decide +kernel), List.mem_of_getElem? (i := 441) (by decide +kernel), List.mem_of_getElem? (i := 442) (by decide +kernel)⟩
theorem lw_p5 : lw_okq (⟨"WaySearchModel", "isThing", "(I)Z"⟩, 21) := ⟨⟨by decide +kernel, by decide +kernel⟩, List.mem_of_getElem? (i := 367) (by decide +kernel), List.mem_of_getElem? (i := 457) (by decide +kernel), List.mem_of_getElem? (i := 458) (by decide +kernel)⟩
theorem lw_p6 : lw_okq (⟨"WaySearchModel", "areJoined", "(II)Z"⟩, 21) := ⟨⟨by decide +kernel, by decide +kernel⟩, List.mem_of_getElem? (i := 367) (by decide +kernel), List.mem_of_getElem? (i := 474) (by decide +kernel), List.mem_of_getElem? (i := 475) (by decide +kernel)⟩
theorem lw_p7 : lw_okq (⟨"WaySearchModel", "joins", "(III)Z"⟩, 21) := ⟨⟨by decide +kernel, by decide +kernel⟩, List.mem_of_getElem? (i := 367) (by decide +kernel), List.mem_of_getElem? (i := 478) (by decide +kernel), List.mem_of_getElem? (i := 479) (by decide +kernel)⟩
theorem lw_p8 : lw_okq (⟨"WaySearchModel", "wrong", "(II)I"⟩, 21) := ⟨⟨by decide +kernel, by decide +kernel⟩, List.mem_of_getElem? (i := 367) (by decide +kernel), List.mem_of_getElem? (i := 486) (by decide +kernel), List.mem_of_getElem? (i := 487) (by decide +kernel)⟩
theorem lw_p9 : lw_okq (⟨"WaySearchModel", "isTank", "(I)Z"⟩, 21) := ⟨⟨by decide +kernel, by decide +kernel⟩, List.mem_of_getElem? (i := 367) (by decide +kernel), List.mem_of_getElem? (i := 490) (by decide +kernel), List.mem_of_getElem? (i := 491) (by decide +kernel)⟩
theorem lw_p10 : lw_okq (⟨"WaySearchModel", "shut", "()V"⟩, 21) := ⟨⟨by decide +kernel, by decide +kernel⟩, List.mem_of_getElem? (i := 367) (by decide +kernel), List.mem_of_getElem? (i := 494) (by decide +kernel), List.mem_of_getElem? (i := 495) (by decide +kernel)⟩
theorem lw_p11 : lw_okq (⟨"WaySearchModel", "exists", "(II)Z"⟩, 21) := ⟨⟨by decide +kernel, by decide +kernel⟩, List.mem_of_getElem? (i := 367) (by decide +kernel), List.mem_of_getElem? (i := 498) (by decide +kernel), List.mem_of_getElem? (i := 499) (by decide +kernel)⟩
theorem lw_p12 : lw_okq (⟨"WaySearchModel", "reckon", "(II)V"⟩, 21) := ⟨⟨by decide +kernel, by decide +kernel⟩, List.mem_of_getElem? (i := 367) (by decide +kernel), List.mem_of_getElem? (i := 502) (by decide +kernel), List.mem_of_getElem? (i := 503) (by decide +kernel)⟩
theorem lw_p13 : lw_okq (⟨"WaySearchModel", "improve", "(IIIII)Z"⟩, 21) := ⟨⟨by decide +kernel, by decide +kernel⟩, List.mem_of_getElem? (i := 367) (by decide +kernel), List.mem_of_getElem? (i := 507) (by decide +kernel), List.mem_of_getElem? (i := 508) (by decide +kernel)⟩
theorem lw_p14 : lw_okq (⟨"WaySearchModel", "goes", "(III)Z"⟩, 21) := ⟨⟨by decide +kernel, by decide +kernel⟩, List.mem_of_getElem? (i := 367) (by decide +kernel), List.mem_of_getElem? (i := 511) (by decide +kernel), List.mem_of_getElem? (i := 512) (by decide +kernel)⟩
theorem lw_p15 : lw_okq (⟨"WaySearchModel", "walk", "(III)Z"⟩, 21) := ⟨⟨by decide +kernel, by decide +kernel⟩, List.mem_of_getElem? (i := 367) (by decide +kernel), List.mem_of_getElem? (i := 516) (by decide +kernel), List.mem_of_getElem? (i := 517) (by decide +kernel)⟩
def lw_privs_1 : List (MethodName × Nat) := [(⟨"WaySearch", "refusalOfEnds", "(II)I"⟩, 5), (⟨"WaySearch", "keep", "(LWaySearch$FoundWay;)I"⟩, 5), (⟨"WaySearch", "wayNumbered", "(I)LWaySearch$FoundWay;"⟩, 5), (⟨"WaySearch", "countLooseThings", "()I"⟩, 5), (⟨"WaySearchModel", "thing", "(I)I"⟩, 21), (⟨"WaySearchModel", "isThing", "(I)Z"⟩, 21), (⟨"WaySearchModel", "areJoined", "(II)Z"⟩, 21), (⟨"WaySearchModel", "joins", "(III)Z"⟩, 21), (⟨"WaySearchModel", "wrong", "(II)I"⟩, 21), (⟨"WaySearchModel", "isTank", "(I)Z"⟩, 21), (⟨"WaySearchModel", "shut", "()V"⟩, 21), (⟨"WaySearchModel", "exists", "(II)Z"⟩, 21), (⟨"WaySearchModel", "reckon", "(II)V"⟩, 21), (⟨"WaySearchModel", "improve", "(IIIII)Z"⟩, 21), (⟨"WaySearchModel", "goes", "(III)Z"⟩, 21), (⟨"WaySearchModel", "walk", "(III)Z"⟩, 21)]
theorem lw_r1 : ∀ q ∈ lw_privs_1, lw_okq q := List.forall_mem_cons.mpr ⟨lw_p0, List.forall_mem_cons.mpr ⟨lw_p1, List.forall_mem_cons.mpr ⟨lw_p2, List.forall_mem_cons.mpr ⟨lw_p3, List.forall_mem_cons.mpr ⟨lw_p4, List.forall_mem_cons.mpr ⟨lw_p5, List.forall_mem_cons.mpr ⟨lw_p6, List.forall_mem_cons.mpr ⟨lw_p7, List.forall_mem_cons.mpr ⟨lw_p8, List.forall_mem_cons.mpr ⟨lw_p9, List.forall_mem_cons.mpr ⟨lw_p10, List.forall_mem_cons.mpr ⟨lw_p11, List.forall_mem_cons.mpr ⟨lw_p12, List.forall_mem_cons.mpr ⟨lw_p13, List.forall_mem_cons.mpr ⟨lw_p14, List.forall_mem_cons.mpr ⟨lw_p15, fun _ h => absurd h List.not_mem_nil⟩⟩⟩⟩⟩⟩⟩⟩⟩⟩⟩⟩⟩⟩⟩⟩
theorem lw_p16 : lw_okq (⟨"WaySearchModel", "isWay", "(I)Z"⟩, 21) := ⟨⟨by decide +kernel, by decide +kernel⟩, List.mem_of_getElem? (i := 367) (by decide +kernel), List.mem_of_getElem? (i := 524) (by decide +kernel), List.mem_of_getElem? (i := 525) (by decide +kernel)⟩
theorem lw_p17 : lw_okq (⟨"WaySearchModel", "behind", "(II)I"⟩, 21) := ⟨⟨by decide +kernel, by decide +kernel⟩, List.mem_of_getElem? (i := 367) (by decide +kernel), List.mem_of_getElem? (i := 532) (by decide +kernel), List.mem_of_getElem? (i := 533) (by decide +kernel)⟩
theorem lw_p18 : lw_okq (⟨"WaySearchModel", "find", "(IIIII)Z"⟩, 21) := ⟨⟨by decide +kernel, by decide +kernel⟩, List.mem_of_getElem? (i := 367) (by decide +kernel), List.mem_of_getElem? (i := 549) (by decide +kernel), List.mem_of_getElem? (i := 550) (by decide +kernel)⟩
def lw_privs_2 : List (MethodName × Nat) := [(⟨"WaySearchModel", "isWay", "(I)Z"⟩, 21), (⟨"WaySearchModel", "behind", "(II)I"⟩, 21), (⟨"WaySearchModel", "find", "(IIIII)Z"⟩, 21)]
theorem lw_r2 : ∀ q ∈ lw_privs_2, lw_okq q := List.forall_mem_cons.mpr ⟨lw_p16, List.forall_mem_cons.mpr ⟨lw_p17, List.forall_mem_cons.mpr ⟨lw_p18, fun _ h => absurd h List.not_mem_nil⟩⟩⟩
def lw_privs : List (MethodName × Nat) := lw_privs_1 ++ (lw_privs_2)
def lw_tbl : List Cond := k2_sels lw_privs ++ tables_1
theorem lw_privs_ok : ∀ q ∈ lw_privs, lw_okq q := by
  show ∀ q ∈ lw_privs_1 ++ (lw_privs_2), lw_okq q
  exact List.forall_mem_append.mpr ⟨lw_r1, lw_r2⟩
-- ===== end of PART A; then your names; then what follows =====
end
section
/-! THE BASE: one world for the whole system (a list of cells), passed whole to every method; contracts that say what comes back. -/
def gT : List Cond := lw_tbl.filter goodWord
theorem gT_in {w : Cond} (h : w ∈ lw_tbl) (hg : goodWord w = true) : w ∈ gT := List.mem_filter.mpr ⟨h, hg⟩
theorem gT_good {w : Cond} (h : w ∈ gT) : (w.onTables && w.keeps) = true ∨ ∃ ty, w = .arrayClass ty := good_of_word (List.mem_filter.mp h).2
/-- a method's words: its own code, and the tables -/
def gW (y : MethodName) (b : ByteArray) (n : Nat) (r : Option FieldType) : List Cond := .code y b n r :: gT
theorem gW_good {y : MethodName} {b : ByteArray} {n : Nat} {r : Option FieldType} (h : Cond.code y b n r ∈ gT) : GoodIn gT (gW y b n r) := by
  intro w hw
  rcases List.mem_cons.mp hw with e | h1
  · subst e
    exact ⟨h, gT_good h⟩
  · exact ⟨h1, gT_good h1⟩
theorem gW_V {y : MethodName} {b : ByteArray} {n i : Nat} {r : Option FieldType} {own C : String} (h : Cond.code y b n r ∈ gT) (h1 : Cond.methodLink own i y ∈ gT) (h2 : Cond.instanceMethod y ∈ gT) (h3 : Cond.selects C y y ∈ gT) (h4 : Cond.initialized C ∈ gT) : GoodIn gT (wsV own i C y (gW y b n r)) := by
  intro w hw
  rcases List.mem_append.mp hw with h5 | h5
  · simp only [List.mem_cons, List.not_mem_nil, or_false] at h5
    rcases h5 with e | e | e | e <;> subst e
    · exact ⟨h1, gT_good h1⟩
    · exact ⟨h2, gT_good h2⟩
    · exact ⟨h3, gT_good h3⟩
    · exact ⟨h4, gT_good h4⟩
  · exact gW_good h w h5
theorem gW_S {y : MethodName} {b : ByteArray} {n i : Nat} {r : Option FieldType} {own : String} (h : Cond.code y b n r ∈ gT) (h1 : Cond.methodLink own i y ∈ gT) (h2 : Cond.static y ∈ gT) (h4 : Cond.initialized y.cls ∈ gT) : GoodIn gT (va_wsS own i y (gW y b n r)) := by
  intro w hw
  rcases List.mem_append.mp hw with h5 | h5
  · simp only [List.mem_cons, List.not_mem_nil, or_false] at h5
    rcases h5 with e | e | e <;> subst e
    · exact ⟨h1, gT_good h1⟩
    · exact ⟨h2, gT_good h2⟩
    · exact ⟨h4, gT_good h4⟩
  · exact gW_good h w h5
/-- the world, and what has been written since H0 -/
def wB (g : va_G) (cl : List vw_C) (A : Nat → Prop) (H0 : Heap) (w : va_W) (H : Heap) (locs : List Loc) : Prop := va_P g cl w H ∧ va_D A w ∧ va_S A H0 H locs ∧ ∀ q, H0.size ≤ q → A q
/-- a method's own surroundings, which don't change while it runs -/
def cX (p : Program) (m : MethodId) (c : Code) (cc : ByteArray) (nL : Nat) (s : State) (args : Array Value) (own : String) (g : va_G) (cl : List vw_C) (tys : List (ClassId × FieldType)) : Prop := p.tables.exec = Jvm.exec ∧ c.code = cc ∧ c.maxLocals = nL ∧ s.vm.findClass own = some m.cls ∧ (∀ w ∈ gT, w.before args s = true) ∧ va_K g cl tys s
def bI (b : Bool) : Int32 := if b then 1 else 0
theorem bI_t : bI true = 1 := rfl
theorem bI_f : bI false = 0 := rfl
theorem bI_0 {b : Bool} : bI b = 0 ↔ b = false := by cases b <;> simp [bI]
theorem bI_n0 {b : Bool} : ¬ bI b = 0 ↔ b = true := by cases b <;> simp [bI]
theorem bI_inj {a b : Bool} : bI a = bI b ↔ a = b := by cases a <;> cases b <;> simp [bI]
theorem bI_nar (b : Bool) : narrow .boolean (.int (bI b)) = .int (bI b) := by cases b <;> rfl
theorem bI_vp (b : Bool) : vp_nar .boolean (bI b) = bI b := by cases b <;> rfl
/-- a method that only reads: it answers v -/
def Rd (l : Launch) (y : MethodName) (ws : List Cond) (rm : Room) (g : va_G) (cl : List vw_C) (tys : List (ClassId × FieldType)) (av : List Value) (w : va_W) (v : Option Value) : Prop :=
  Met l y ws rm (va_Pc av (fun U => va_P g cl w U.heap ∧ va_K g cl tys U)) (fun _ st o t => o = .returned v ∧ t.heap = st.heap) 0 0 (fun _ => False)
/-- a method that writes in the world w, or makes cells: some u, with its answer and the world w1 u -/
def Mt (l : Launch) (y : MethodName) (ws : List Cond) (rm : Room) (g : va_G) (cl : List vw_C) (tys : List (ClassId × FieldType)) (av : List Value) (w : va_W) {S : Type} (post : Option Value → S → Prop) (w1 : S → va_W) (mc ms : Nat) : Prop :=
  ∀ sz : Nat, Met l y ws rm (va_Pc av (fun U => U.heap.size = sz ∧ va_P g cl w U.heap ∧ va_K g cl tys U ∧ va_D (fun _ => True) w)) (fun _ st o t => (∃ (v : Option Value) (u : S), o = .returned v ∧ post v u ∧ va_P g cl (w1 u) t.heap ∧ va_D (va_A w sz) (w1 u)) ∧ va_F (va_A w sz) st t) mc ms (va_A w sz)
section BASE
variable {p : Program} {l : Launch} {e : Env} {R : Room} {s : State} {m : MethodId} {args : Array Value} {below : List Frame} {meth : Method} {c : Code} {H : Heap} {locs : List Loc} {cells slots : Nat} {Q : State → Prop}
variable {cc : ByteArray} {nL pc index n maxL : Nat} {ls : Array Slot} {rest st As : List Value} {own C : String} {g : va_G} {cl : List vw_C} {tys : List (ClassId × FieldType)} {A : Nat → Prop} {H0 : Heap} {w : va_W} {y : MethodName} {bytes : ByteArray} {ret : Option FieldType} {ws : List Cond} {rm : Room} {mc ms : Nat} {b : Nat} {v : Option Value}
theorem Rd.of {av : List Value} (hy : plainName y.cls = true) (hw : ws = gW y cc maxL ret) (hown : y.cls = own) (hav : (lg_sl av).length ≤ maxL)
    (body : ∀ (p : Program) (e : Env) (s : State) (m : MethodId) (args : Array Value) (below : List Frame) (meth : Method) (c : Code), cX p m c cc maxL s args own g cl tys → meth.sig.returnType = ret → meth.locks = false → va_P g cl w s.heap → ∀ ls : Array Slot, lv_has ls maxL (lv_args 0 av) → W p l e rm s m args below meth c s.heap [] 0 0 (MQ below (fun _ st o t => o = .returned v ∧ t.heap = st.heap) args s 0 0 (fun _ => False)) (F0 m 0 ls [])) : Rd l y ws rm g cl tys av w v := by
  subst hw
  subst hown
  refine Met.ofW (cc := cc) (maxL := maxL) (ret := ret) hy rfl ?_
  intro p e s m args below meth c s₁ B hml hv
  obtain ⟨rfl, hP, hK⟩ := hv
  have hts := atoms_spec (ws := gW y cc maxL ret) B.pre
  have hl := lv_entry av (n := maxL) hav
  rw [lg_entry_eq]
  exact body p e s m _ below meth c ⟨B.exec, B.bytes, hml, findClass_of_methodNamed B.named, fun x hx => hts x (List.mem_cons_of_mem _ hx), hK⟩ B.returns B.notSynchronized hP _ hl
theorem Mt.of {av : List Value} {S : Type} {post : Option Value → S → Prop} {w1 : S → va_W} (hy : plainName y.cls = true) (hw : ws = gW y cc maxL ret) (hown : y.cls = own) (hav : (lg_sl av).length ≤ maxL)
    (body : ∀ (p : Program) (e : Env) (s : State) (m : MethodId) (args : Array Value) (below : List Frame) (meth : Method) (c : Code), cX p m c cc maxL s args own g cl tys → meth.sig.returnType = ret → meth.locks = false → meth.name = y.name → ∀ (A : Nat → Prop), A = va_A w s.heap.size → wB g cl A s.heap w s.heap [] → ∀ ls : Array Slot, lv_has ls maxL (lv_args 0 av) → W p l e rm s m args below meth c s.heap [] 0 0 (MQ below (fun _ st o t => (∃ (v : Option Value) (u : S), o = .returned v ∧ post v u ∧ va_P g cl (w1 u) t.heap ∧ va_D A (w1 u)) ∧ va_F A st t) args s mc ms A) (F0 m 0 ls [])) : Mt l y ws rm g cl tys av w post w1 mc ms := by
  intro sz
  subst hw
  subst hown
  refine Met.ofW (cc := cc) (maxL := maxL) (ret := ret) hy rfl ?_
  intro p e s m args below meth c s₁ B hml hv
  obtain ⟨rfl, hsz, hP, hK, hD⟩ := hv
  subst hsz
  have hts := atoms_spec (ws := gW y cc maxL ret) B.pre
  have hl := lv_entry av (n := maxL) hav
  rw [lg_entry_eq]
  exact body p e s m _ below meth c ⟨B.exec, B.bytes, hml, findClass_of_methodNamed B.named, fun x hx => hts x (List.mem_cons_of_mem _ hx), hK⟩ B.returns B.notSynchronized (name_of_methodNamed B.named B.method).1 _ rfl ⟨hP, hD.self, va_S.rf, fun _ h => Or.inr h⟩ _ hl
/-- behind a call: the callee's frame is in ours -/
theorem wB.free (hB : wB g cl A H0 w H locs) : ∀ q, va_A w H.size q → A q := by
  obtain ⟨hP, hD, hS, hA⟩ := hB
  intro q h
  rcases h with ⟨k, x, h⟩ | h
  · exact hD.2 k _ h
  · exact hA q (Nat.le_trans hS.1 h)
theorem cR (C0 : cX p m c cc nL s args own g cl tys) (hM : Rd l y ws rm g cl tys (.ref b :: As) w v) (cw : CallW R s args own C index y bytes maxL ret ws rm 0 0 n) {ci q0 : Nat} {q : vw_C} {fs : List Value} (hc : cl[ci]? = some q) (hq : q.1 = C) (he : w[q0]? = some (b, .inr (ci, fs))) (hP : va_P g cl w H) (hl : ls.size = nL) (hn : As.length = n) (hst : st = As.reverse ++ .ref b :: rest) (hr : (rest.map fun v => v.category).sum ≤ 8) (hdg : decode cc pc = .ok (.invokevirtual index, 3)) (hf : cells ≤ R.cells ∧ slots ≤ R.slots)
    (kk : W p l e R s m args below meth c H locs cells slots Q (F0 m (pc + 3) ls (v.toList ++ rest))) : W p l e R s m args below meth c H locs cells slots Q (F0 m pc ls st) := by
  obtain ⟨hx, hb, hml, hown, hts, hK⟩ := C0
  subst hq
  subst hst
  have hrun := W.runV (As := As) (rest := rest) (locs := locs) (cells := cells) (slots := slots) (e := e) (below := below) (meth := meth) (g := F0 m pc ls (As.reverse ++ .ref b :: rest)) ⟨hx, hb, hml, hown, hts⟩ hM cw
    ⟨fun a U g mk q => by obtain ⟨q0, qP, qK⟩ := q; exact ⟨q0, qP, va_K.moved (u := U) (U := U.calling g mk a) (Vm.Alike.refl U.vm) qK⟩, va_recv hK hP hc he, fun U hU hW => ⟨rfl, by rw [hU]; exact hP, va_K.moved hW.alike hK⟩⟩ rfl hn hl rfl (lv_room hr) hdg hf
  intro T hT X
  obtain ⟨v', st₀, t, T', L, h0, X', hL, e1, ⟨hv, hh⟩, hs⟩ := hrun T hT X
  cases hv
  obtain ⟨t2, a1, b1⟩ := kk T' (by rw [e1, hh, h0]) (Stand.forget X' (fun q h => (hL q h).elim))
  exact ⟨t2, hs t2 a1, b1⟩
theorem cRS (C0 : cX p m c cc nL s args own g cl tys) (hM : Rd l y ws rm g cl tys As w v) (cw : CallB R s args own index y bytes maxL ret ws rm 0 0 n ∧ (Cond.static y).before args s = true) (hP : va_P g cl w H) (hl : ls.size = nL) (hn : As.length = n) (hst : st = As.reverse ++ rest) (hr : (rest.map fun v => v.category).sum ≤ 8) (hdg : decode cc pc = .ok (.invokestatic index, 3)) (hf : cells ≤ R.cells ∧ slots ≤ R.slots)
    (kk : W p l e R s m args below meth c H locs cells slots Q (F0 m (pc + 3) ls (v.toList ++ rest))) : W p l e R s m args below meth c H locs cells slots Q (F0 m pc ls st) := by
  obtain ⟨hx, hb, hml, hown, hts, hK⟩ := C0
  subst hst
  have hrun := W.runS (As := As) (rest := rest) (locs := locs) (cells := cells) (slots := slots) (e := e) (below := below) (meth := meth) (g := F0 m pc ls (As.reverse ++ rest)) ⟨hx, hb, hml, hown, hts⟩ hM cw
    ⟨fun a U g mk q => by obtain ⟨q0, qP, qK⟩ := q; exact ⟨q0, qP, va_K.moved (u := U) (U := U.calling g mk a) (Vm.Alike.refl U.vm) qK⟩, fun U hU hW => ⟨rfl, by rw [hU]; exact hP, va_K.moved hW.alike hK⟩⟩ rfl hn hl rfl (lv_room hr) hdg hf
  intro T hT X
  obtain ⟨v', st₀, t, T', L, h0, X', hL, e1, ⟨hv, hh⟩, hs⟩ := hrun T hT X
  cases hv
  obtain ⟨t2, a1, b1⟩ := kk T' (by rw [e1, hh, h0]) (Stand.forget X' (fun q h => (hL q h).elim))
  exact ⟨t2, hs t2 a1, b1⟩
/-- what a caller goes on with behind a call of an Mt -/
theorem cM_on {S : Type} {post : Option Value → S → Prop} {w1 : S → va_W} {T : State} {jf : JFrame} (hB : wB g cl A H0 w H locs)
    (hr : CallRun p l e R s m args below meth c H locs cells slots mc ms jf rest (fun st o t => (∃ (v : Option Value) (u : S), o = .returned v ∧ post v u ∧ va_P g cl (w1 u) t.heap ∧ va_D (va_A w H.size) (w1 u)) ∧ va_F (va_A w H.size) st t) (va_A w H.size))
    (kk : ∀ (v : Option Value) (u : S) (H1 : Heap) (locs1 : List Loc), post v u → wB g cl A H0 (w1 u) H1 locs1 → W p l e R s m args below meth c H1 locs1 (cells + mc) (slots + ms) Q { jf with pc := jf.pc + 3, stack := v.toList ++ rest }) : W p l e R s m args below meth c H locs cells slots Q jf := by
  intro T hT X
  have hF := hB.free
  obtain ⟨hP, hD, hS, hA⟩ := hB
  obtain ⟨v', st₀, t, T', L, h0, X', hL, e1, ⟨⟨v, u, hv, hp, hP1, hD1⟩, hF1⟩, hs⟩ := hr T hT X
  cases hv
  subst h0
  have hB1 : wB g cl A H0 (w1 u) t.heap (locs ++ L) := by
    refine ⟨hP1, hD1.weaken (fun _ _ _ h => hF _ h), ⟨Nat.le_trans hS.1 hF1.1, fun q h1 h2 => ?_, fun x hx => ?_⟩, hA⟩
    · rw [hF1.2 q (Nat.lt_of_lt_of_le h1 hS.1) (fun h3 => h2 (hF _ h3))]
      exact hS.2.1 q h1 h2
    · rcases List.mem_append.mp hx with h | h
      · exact hS.2.2 x h
      · exact hF _ (hL x h)
  obtain ⟨t2, a1, b1⟩ := kk _ u t.heap (locs ++ L) hp hB1 T' e1 X'
  exact ⟨t2, hs t2 a1, b1⟩
theorem cM {S : Type} {post : Option Value → S → Prop} {w1 : S → va_W} (C0 : cX p m c cc nL s args own g cl tys) (hM : Mt l y ws rm g cl tys (.ref b :: As) w post w1 mc ms) (cw : CallW R s args own C index y bytes maxL ret ws rm mc ms n) {ci q0 : Nat} {q : vw_C} {fs : List Value} (hc : cl[ci]? = some q) (hq : q.1 = C) (he : w[q0]? = some (b, .inr (ci, fs))) (hB : wB g cl A H0 w H locs) (hl : ls.size = nL) (hn : As.length = n) (hst : st = As.reverse ++ .ref b :: rest) (hr : (rest.map fun v => v.category).sum ≤ 8) (hdg : decode cc pc = .ok (.invokevirtual index, 3)) (hf : cells + mc ≤ R.cells ∧ slots + ms ≤ R.slots)
    (kk : ∀ (v : Option Value) (u : S) (H1 : Heap) (locs1 : List Loc), post v u → wB g cl A H0 (w1 u) H1 locs1 → W p l e R s m args below meth c H1 locs1 (cells + mc) (slots + ms) Q (F0 m (pc + 3) ls (v.toList ++ rest))) : W p l e R s m args below meth c H locs cells slots Q (F0 m pc ls st) := by
  obtain ⟨hx, hb, hml, hown, hts, hK⟩ := C0
  subst hq
  subst hst
  have hrun := W.runV (As := As) (rest := rest) (locs := locs) (cells := cells) (slots := slots) (e := e) (below := below) (meth := meth) (g := F0 m pc ls (As.reverse ++ .ref b :: rest)) ⟨hx, hb, hml, hown, hts⟩ (hM H.size) cw
    ⟨fun a U g mk q => by obtain ⟨q0, q1, qP, qK, qD⟩ := q; exact ⟨q0, q1, qP, va_K.moved (u := U) (U := U.calling g mk a) (Vm.Alike.refl U.vm) qK, qD⟩, va_recv hK hB.1 hc he, fun U hU hW => ⟨rfl, by rw [hU], by rw [hU]; exact hB.1, va_K.moved hW.alike hK, hB.2.1.weaken (fun _ _ _ _ => trivial)⟩⟩ rfl hn hl rfl (lv_room hr) hdg hf
  exact cM_on (T := s) hB hrun kk
theorem cMS {S : Type} {post : Option Value → S → Prop} {w1 : S → va_W} (C0 : cX p m c cc nL s args own g cl tys) (hM : Mt l y ws rm g cl tys As w post w1 mc ms) (cw : CallB R s args own index y bytes maxL ret ws rm mc ms n ∧ (Cond.static y).before args s = true) (hB : wB g cl A H0 w H locs) (hl : ls.size = nL) (hn : As.length = n) (hst : st = As.reverse ++ rest) (hr : (rest.map fun v => v.category).sum ≤ 8) (hdg : decode cc pc = .ok (.invokestatic index, 3)) (hf : cells + mc ≤ R.cells ∧ slots + ms ≤ R.slots)
    (kk : ∀ (v : Option Value) (u : S) (H1 : Heap) (locs1 : List Loc), post v u → wB g cl A H0 (w1 u) H1 locs1 → W p l e R s m args below meth c H1 locs1 (cells + mc) (slots + ms) Q (F0 m (pc + 3) ls (v.toList ++ rest))) : W p l e R s m args below meth c H locs cells slots Q (F0 m pc ls st) := by
  obtain ⟨hx, hb, hml, hown, hts, hK⟩ := C0
  subst hst
  have hrun := W.runS (As := As) (rest := rest) (locs := locs) (cells := cells) (slots := slots) (e := e) (below := below) (meth := meth) (g := F0 m pc ls (As.reverse ++ rest)) ⟨hx, hb, hml, hown, hts⟩ (hM H.size) cw
    ⟨fun a U g mk q => by obtain ⟨q0, q1, qP, qK, qD⟩ := q; exact ⟨q0, q1, qP, va_K.moved (u := U) (U := U.calling g mk a) (Vm.Alike.refl U.vm) qK, qD⟩, fun U hU hW => ⟨rfl, by rw [hU], by rw [hU]; exact hB.1, va_K.moved hW.alike hK, hB.2.1.weaken (fun _ _ _ _ => trivial)⟩⟩ rfl hn hl rfl (lv_room hr) hdg hf
  exact cM_on (T := s) hB hrun kk
theorem cMI {S : Type} {post : Option Value → S → Prop} {w1 : S → va_W} (C0 : cX p m c cc nL s args own g cl tys) (hM : Mt l y ws rm g cl tys (.ref b :: As) w post w1 mc ms) (cw : CallB R s args own index y bytes maxL none ws rm mc ms n ∧ y.name = "<init>" ∧ (Cond.instanceMethod y).before args s = true) (hB : wB g cl A H0 w H locs) (hl : ls.size = nL) (hn : As.length = n) (hst : st = As.reverse ++ .ref b :: rest) (hr : (rest.map fun v => v.category).sum ≤ 8) (hdg : decode cc pc = .ok (.invokespecial index, 3)) (hf : cells + mc ≤ R.cells ∧ slots + ms ≤ R.slots)
    (kk : ∀ (v : Option Value) (u : S) (H1 : Heap) (locs1 : List Loc), post v u → wB g cl A H0 (w1 u) H1 locs1 → W p l e R s m args below meth c H1 locs1 (cells + mc) (slots + ms) Q (F0 m (pc + 3) ls (v.toList ++ rest))) : W p l e R s m args below meth c H locs cells slots Q (F0 m pc ls st) := by
  obtain ⟨hx, hb, hml, hown, hts, hK⟩ := C0
  subst hst
  have hrun := W.runI (As := As) (rest := rest) (locs := locs) (cells := cells) (slots := slots) (e := e) (below := below) (meth := meth) (g := F0 m pc ls (As.reverse ++ .ref b :: rest)) ⟨hx, hb, hml, hown, hts⟩ (hM H.size) cw
    ⟨fun a U g mk q => by obtain ⟨q0, q1, qP, qK, qD⟩ := q; exact ⟨q0, q1, qP, va_K.moved (u := U) (U := U.calling g mk a) (Vm.Alike.refl U.vm) qK, qD⟩, fun U hU hW => ⟨rfl, by rw [hU], by rw [hU]; exact hB.1, va_K.moved hW.alike hK, hB.2.1.weaken (fun _ _ _ _ => trivial)⟩⟩ rfl hn hl rfl (lv_room hr) hdg hf
  exact cM_on (T := s) hB hrun kk
-- ends
theorem eR_i {r : Int32} (C0 : cX p m c cc nL s args own g cl tys) (hr : meth.sig.returnType = some .int) (hlk : meth.locks = false) (hv : v = some (.int r)) (hdg : decode cc pc = .ok (.ireturn, 1)) : W p l e R s m args below meth c s.heap [] 0 0 (MQ below (fun _ st o t => o = .returned v ∧ t.heap = st.heap) args s 0 0 (fun _ => False)) (F0 m pc ls [.int r]) :=
  W.iret C0.1 C0.2.1 hr (fun t ht _ => ⟨by rw [hv], ht⟩) (fun _ h => by cases h) hdg hlk
theorem eR_z {r : Int32} {b : Bool} (C0 : cX p m c cc nL s args own g cl tys) (hr : meth.sig.returnType = some .boolean) (hlk : meth.locks = false) (hb : r = bI b) (hv : v = some (.int (bI b))) (hdg : decode cc pc = .ok (.ireturn, 1)) : W p l e R s m args below meth c s.heap [] 0 0 (MQ below (fun _ st o t => o = .returned v ∧ t.heap = st.heap) args s 0 0 (fun _ => False)) (F0 m pc ls [.int r]) := by
  subst hb
  exact W.zret C0.1 C0.2.1 hr (bI_nar b) (fun t ht _ => ⟨by rw [hv], ht⟩) (fun _ h => by cases h) hdg hlk
theorem eR_l {r : Int64} (C0 : cX p m c cc nL s args own g cl tys) (hr : meth.sig.returnType = some .long) (hlk : meth.locks = false) (hv : v = some (.long r)) (hdg : decode cc pc = .ok (.lreturn, 1)) : W p l e R s m args below meth c s.heap [] 0 0 (MQ below (fun _ st o t => o = .returned v ∧ t.heap = st.heap) args s 0 0 (fun _ => False)) (F0 m pc ls [.long r]) :=
  W.lret C0.1 C0.2.1 hr (fun t ht _ => ⟨by rw [hv], ht⟩) (fun _ h => by cases h) hdg hlk
theorem eR_a {r : Value} {rt : FieldType} (C0 : cX p m c cc nL s args own g cl tys) (hr : meth.sig.returnType = some rt) (hrt : (∃ n, rt = .object n) ∨ ∃ t, rt = .array t) (hlk : meth.locks = false) (hv : v = some r) (hr2 : r = .null ∨ ∃ a, r = .ref a) (hdg : decode cc pc = .ok (.areturn, 1)) : W p l e R s m args below meth c s.heap [] 0 0 (MQ below (fun _ st o t => o = .returned v ∧ t.heap = st.heap) args s 0 0 (fun _ => False)) (F0 m pc ls [r]) :=
  W.aret C0.1 C0.2.1 hr hrt hr2 (fun t ht _ => ⟨by rw [hv], ht⟩) (fun _ h => by cases h) hdg hlk
theorem eM_v {S : Type} {post : Option Value → S → Prop} {w1 : S → va_W} (C0 : cX p m c cc nL s args own g cl tys) (hr : meth.sig.returnType = none) (hlk : meth.locks = false) (u : S) (hB : wB g cl A s.heap (w1 u) H locs) (hp : post none u) (h1 : cells ≤ mc) (h2 : slots ≤ ms) (hdg : decode cc pc = .ok (.return_, 1)) : W p l e R s m args below meth c H locs cells slots (MQ below (fun _ st o t => (∃ (v : Option Value) (u : S), o = .returned v ∧ post v u ∧ va_P g cl (w1 u) t.heap ∧ va_D A (w1 u)) ∧ va_F A st t) args s mc ms A) (F0 m pc ls []) :=
  W.widen h1 h2 (W.vret C0.1 C0.2.1 hr (fun t ht _ => ⟨⟨none, u, rfl, hp, by rw [ht]; exact hB.1, hB.2.1⟩, hB.2.2.1.F ht⟩) hB.2.2.1.2.2 hdg hlk)
theorem eM_i {S : Type} {post : Option Value → S → Prop} {w1 : S → va_W} {r : Int32} (C0 : cX p m c cc nL s args own g cl tys) (hr : meth.sig.returnType = some .int) (hlk : meth.locks = false) (u : S) (hB : wB g cl A s.heap (w1 u) H locs) (hp : post (some (.int r)) u) (h1 : cells ≤ mc) (h2 : slots ≤ ms) (hdg : decode cc pc = .ok (.ireturn, 1)) : W p l e R s m args below meth c H locs cells slots (MQ below (fun _ st o t => (∃ (v : Option Value) (u : S), o = .returned v ∧ post v u ∧ va_P g cl (w1 u) t.heap ∧ va_D A (w1 u)) ∧ va_F A st t) args s mc ms A) (F0 m pc ls [.int r]) :=
  W.widen h1 h2 (W.iret C0.1 C0.2.1 hr (fun t ht _ => ⟨⟨_, u, rfl, hp, by rw [ht]; exact hB.1, hB.2.1⟩, hB.2.2.1.F ht⟩) hB.2.2.1.2.2 hdg hlk)
theorem eM_z {S : Type} {post : Option Value → S → Prop} {w1 : S → va_W} {r : Int32} {b : Bool} (C0 : cX p m c cc nL s args own g cl tys) (hr : meth.sig.returnType = some .boolean) (hlk : meth.locks = false) (u : S) (hb : r = bI b) (hB : wB g cl A s.heap (w1 u) H locs) (hp : post (some (.int (bI b))) u) (h1 : cells ≤ mc) (h2 : slots ≤ ms) (hdg : decode cc pc = .ok (.ireturn, 1)) : W p l e R s m args below meth c H locs cells slots (MQ below (fun _ st o t => (∃ (v : Option Value) (u : S), o = .returned v ∧ post v u ∧ va_P g cl (w1 u) t.heap ∧ va_D A (w1 u)) ∧ va_F A st t) args s mc ms A) (F0 m pc ls [.int r]) := by
  subst hb
  exact W.widen h1 h2 (W.zret C0.1 C0.2.1 hr (bI_nar b) (fun t ht _ => ⟨⟨_, u, rfl, hp, by rw [ht]; exact hB.1, hB.2.1⟩, hB.2.2.1.F ht⟩) hB.2.2.1.2.2 hdg hlk)
theorem eM_a {S : Type} {post : Option Value → S → Prop} {w1 : S → va_W} {r : Value} {rt : FieldType} (C0 : cX p m c cc nL s args own g cl tys) (hr : meth.sig.returnType = some rt) (hrt : (∃ n, rt = .object n) ∨ ∃ t, rt = .array t) (hlk : meth.locks = false) (u : S) (hr2 : r = .null ∨ ∃ a, r = .ref a) (hB : wB g cl A s.heap (w1 u) H locs) (hp : post (some r) u) (h1 : cells ≤ mc) (h2 : slots ≤ ms) (hdg : decode cc pc = .ok (.areturn, 1)) : W p l e R s m args below meth c H locs cells slots (MQ below (fun _ st o t => (∃ (v : Option Value) (u : S), o = .returned v ∧ post v u ∧ va_P g cl (w1 u) t.heap ∧ va_D A (w1 u)) ∧ va_F A st t) args s mc ms A) (F0 m pc ls [r]) :=
  W.widen h1 h2 (W.aret C0.1 C0.2.1 hr hrt hr2 (fun t ht _ => ⟨⟨_, u, rfl, hp, by rw [ht]; exact hB.1, hB.2.1⟩, hB.2.2.1.F ht⟩) hB.2.2.1.2.2 hdg hlk)
end BASE
end
section
/-! ROWS over the base: arrays by natural indices, long compares, bool contents -/
theorem up_nI {f : Nat → Nat} {k v : Nat} : upd (fun j => nI (f j)) k (nI v) = fun j => nI (va_up f k v j) := by
  funext j
  by_cases h : j = k
  · simp [upd, va_up, h]
  · simp [upd, va_up, h]
theorem up_bI {f : Nat → Bool} {k : Nat} {v : Bool} : upd (fun j => bI (f j)) k (bI v) = fun j => bI (va_up f k v j) := by
  funext j
  by_cases h : j = k
  · simp [upd, va_up, h]
  · simp [upd, va_up, h]
theorem up_lN {f : Nat → Nat} {k v : Nat} : vp_updL (fun j => lN (f j)) k (lN v) = fun j => lN (va_up f k v j) := by
  funext j
  by_cases h : j = k
  · simp [vp_updL, va_up, h]
  · simp [vp_updL, va_up, h]
theorem up_32 {f : Nat → Int32} {k : Nat} {v : Int32} : upd f k v = va_up f k v := by
  funext j
  by_cases h : j = k
  · simp [upd, va_up, h]
  · simp [upd, va_up, h]
section ROWS
variable {p : Program} {l : Launch} {e : Env} {R : Room} {s : State} {m : MethodId} {args : Array Value} {below : List Frame} {meth : Method} {c : Code} {H : Heap} {locs : List Loc} {cells slots : Nat} {Q : State → Prop}
variable {cc : ByteArray} {nL pc : Nat} {ls : Array Slot} {rest : List Value} {own : String} {g : va_G} {cl : List vw_C} {tys : List (ClassId × FieldType)} {A : Nat → Prop} {H0 : Heap} {w w' : va_W} {x k N : Nat} {cA : ClassId}
theorem ald_i {f : Nat → Int32} (C0 : cX p m c cc nL s args own g cl tys) (hP : va_P g cl w H) (q0 t0 : Nat) (ha : w[q0]? = some (x, .inl (cA, N, .inl f))) (ht : tys[t0]? = some (cA, .int)) (hk : k < N) (hN : N < 2 ^ 31) (hdg : decode cc pc = .ok (.iaload, 1))
    (kk : W p l e R s m args below meth c H locs cells slots Q (F0 m (pc + 1) ls (.int (f k) :: rest))) : W p l e R s m args below meth c H locs cells slots Q (F0 m pc ls (.int (nI k) :: .ref x :: rest)) := by
  obtain ⟨hx, hb, hml, hown, hts, hK⟩ := C0
  refine va_iald hx hb hK hP q0 t0 ha ht (vp_in_nI hk hN) hdg ?_
  rw [nI_clamp (Nat.lt_trans hk hN)]
  exact kk
theorem ald_z {f : Nat → Int32} (C0 : cX p m c cc nL s args own g cl tys) (hP : va_P g cl w H) (q0 t0 : Nat) (ha : w[q0]? = some (x, .inl (cA, N, .inl f))) (ht : tys[t0]? = some (cA, .boolean)) (hk : k < N) (hN : N < 2 ^ 31) (hdg : decode cc pc = .ok (.baload, 1))
    (kk : W p l e R s m args below meth c H locs cells slots Q (F0 m (pc + 1) ls (.int (f k) :: rest))) : W p l e R s m args below meth c H locs cells slots Q (F0 m pc ls (.int (nI k) :: .ref x :: rest)) := by
  obtain ⟨hx, hb, hml, hown, hts, hK⟩ := C0
  refine va_zald hx hb hK hP q0 t0 ha ht (vp_in_nI hk hN) hdg ?_
  rw [nI_clamp (Nat.lt_trans hk hN)]
  exact kk
theorem ald_l {f : Nat → Int64} (C0 : cX p m c cc nL s args own g cl tys) (hP : va_P g cl w H) (q0 t0 : Nat) (ha : w[q0]? = some (x, .inl (cA, N, .inr (.inl f)))) (ht : tys[t0]? = some (cA, .long)) (hk : k < N) (hN : N < 2 ^ 31) (hdg : decode cc pc = .ok (.laload, 1))
    (kk : W p l e R s m args below meth c H locs cells slots Q (F0 m (pc + 1) ls (.long (f k) :: rest))) : W p l e R s m args below meth c H locs cells slots Q (F0 m pc ls (.int (nI k) :: .ref x :: rest)) := by
  obtain ⟨hx, hb, hml, hown, hts, hK⟩ := C0
  refine va_lald hx hb hK hP q0 t0 ha ht (vp_in_nI hk hN) hdg ?_
  rw [nI_clamp (Nat.lt_trans hk hN)]
  exact kk
theorem ald_q {C : String} {f : Nat → Option Nat} (C0 : cX p m c cc nL s args own g cl tys) (hP : va_P g cl w H) (q0 t0 : Nat) (ha : w[q0]? = some (x, .inl (cA, N, .inr (.inr (.inr (.inr f)))))) (ht : tys[t0]? = some (cA, .object C)) (hk : k < N) (hN : N < 2 ^ 31) (hdg : decode cc pc = .ok (.aaload, 1))
    (kk : W p l e R s m args below meth c H locs cells slots Q (F0 m (pc + 1) ls (va_rf (f k) :: rest))) : W p l e R s m args below meth c H locs cells slots Q (F0 m pc ls (.int (nI k) :: .ref x :: rest)) := by
  obtain ⟨hx, hb, hml, hown, hts, hK⟩ := C0
  refine va_aldq hx hb hK hP q0 t0 ha ht (vp_in_nI hk hN) hdg ?_
  rw [nI_clamp (Nat.lt_trans hk hN)]
  exact kk
theorem alen {a0 : vp_A} {ty : FieldType} {n : Nat} (C0 : cX p m c cc nL s args own g cl tys) (hP : va_P g cl w H) (q0 t0 : Nat) (ha : w[q0]? = some (x, .inl (cA, a0))) (ht : tys[t0]? = some (cA, ty)) (hn : a0.1 = n) (hdg : decode cc pc = .ok (.arraylength, 1))
    (kk : W p l e R s m args below meth c H locs cells slots Q (F0 m (pc + 1) ls (.int (nI n) :: rest))) : W p l e R s m args below meth c H locs cells slots Q (F0 m pc ls (.ref x :: rest)) := by
  obtain ⟨hx, hb, hml, hown, hts, hK⟩ := C0
  subst hn
  exact va_alen hx hb hK hP q0 t0 ha ht rfl hdg kk
theorem ast_i {f f' : Nat → Int32} {v : Int32} (C0 : cX p m c cc nL s args own g cl tys) (hB : wB g cl A H0 w H locs) (q0 t0 : Nat) (ha : w[q0]? = some (x, .inl (cA, N, .inl f))) (ht : tys[t0]? = some (cA, .int)) (hk : k < N) (hN : N < 2 ^ 31) (hf : upd f k v = f') (hw : w.set q0 (x, .inl (cA, N, .inl f')) = w') (hdg : decode cc pc = .ok (.iastore, 1))
    (kk : ∀ (H1 : Heap) (locs1 : List Loc), wB g cl A H0 w' H1 locs1 → W p l e R s m args below meth c H1 locs1 cells slots Q (F0 m (pc + 1) ls rest)) : W p l e R s m args below meth c H locs cells slots Q (F0 m pc ls (.int v :: .int (nI k) :: .ref x :: rest)) := by
  obtain ⟨hx, hb, hml, hown, hts, hK⟩ := C0
  obtain ⟨hP, hD, hS, hA⟩ := hB
  subst hf
  subst hw
  refine va_iast hx hb hK hP hD hS q0 t0 ha ht (vp_in_nI hk hN) hdg (fun H1 locs1 hP1 hD1 hS1 => ?_)
  rw [nI_clamp (Nat.lt_trans hk hN)] at hP1 hD1
  exact kk H1 locs1 ⟨hP1, hD1, hS1, hA⟩
theorem ast_z {f f' : Nat → Int32} {b : Bool} (C0 : cX p m c cc nL s args own g cl tys) (hB : wB g cl A H0 w H locs) (q0 t0 : Nat) (ha : w[q0]? = some (x, .inl (cA, N, .inl f))) (ht : tys[t0]? = some (cA, .boolean)) (hk : k < N) (hN : N < 2 ^ 31) (hf : upd f k (bI b) = f') (hw : w.set q0 (x, .inl (cA, N, .inl f')) = w') (hdg : decode cc pc = .ok (.bastore, 1))
    (kk : ∀ (H1 : Heap) (locs1 : List Loc), wB g cl A H0 w' H1 locs1 → W p l e R s m args below meth c H1 locs1 cells slots Q (F0 m (pc + 1) ls rest)) : W p l e R s m args below meth c H locs cells slots Q (F0 m pc ls (.int (bI b) :: .int (nI k) :: .ref x :: rest)) := by
  obtain ⟨hx, hb, hml, hown, hts, hK⟩ := C0
  obtain ⟨hP, hD, hS, hA⟩ := hB
  subst hf
  subst hw
  refine va_zast hx hb hK hP hD hS q0 t0 ha ht (vp_in_nI hk hN) hdg (fun H1 locs1 hP1 hD1 hS1 => ?_)
  rw [nI_clamp (Nat.lt_trans hk hN), bI_vp] at hP1 hD1
  exact kk H1 locs1 ⟨hP1, hD1, hS1, hA⟩
theorem ast_l {f f' : Nat → Int64} {v : Int64} (C0 : cX p m c cc nL s args own g cl tys) (hB : wB g cl A H0 w H locs) (q0 t0 : Nat) (ha : w[q0]? = some (x, .inl (cA, N, .inr (.inl f)))) (ht : tys[t0]? = some (cA, .long)) (hk : k < N) (hN : N < 2 ^ 31) (hf : vp_updL f k v = f') (hw : w.set q0 (x, .inl (cA, N, .inr (.inl f'))) = w') (hdg : decode cc pc = .ok (.lastore, 1))
    (kk : ∀ (H1 : Heap) (locs1 : List Loc), wB g cl A H0 w' H1 locs1 → W p l e R s m args below meth c H1 locs1 cells slots Q (F0 m (pc + 1) ls rest)) : W p l e R s m args below meth c H locs cells slots Q (F0 m pc ls (.long v :: .int (nI k) :: .ref x :: rest)) := by
  obtain ⟨hx, hb, hml, hown, hts, hK⟩ := C0
  obtain ⟨hP, hD, hS, hA⟩ := hB
  subst hf
  subst hw
  refine va_last hx hb hK hP hD hS q0 t0 ha ht (vp_in_nI hk hN) hdg (fun H1 locs1 hP1 hD1 hS1 => ?_)
  rw [nI_clamp (Nat.lt_trans hk hN)] at hP1 hD1
  exact kk H1 locs1 ⟨hP1, hD1, hS1, hA⟩
theorem ast_q {f f' : Nat → Option Nat} {r : vw_C} {v ci qk : Nat} {vs : List Value} (C0 : cX p m c cc nL s args own g cl tys) (hB : wB g cl A H0 w H locs) (q0 t0 : Nat) (ha : w[q0]? = some (x, .inl (cA, N, .inr (.inr (.inr (.inr f)))))) (ht : tys[t0]? = some (cA, .object r.1)) (hv : w[qk]? = some (v, .inr (ci, vs))) (hc : cl[ci]? = some r) (hk : k < N) (hN : N < 2 ^ 31) (hf : va_up f k (some v) = f') (hw : w.set q0 (x, .inl (cA, N, .inr (.inr (.inr (.inr f'))))) = w') (hdg : decode cc pc = .ok (.aastore, 1))
    (kk : ∀ (H1 : Heap) (locs1 : List Loc), wB g cl A H0 w' H1 locs1 → W p l e R s m args below meth c H1 locs1 cells slots Q (F0 m (pc + 1) ls rest)) : W p l e R s m args below meth c H locs cells slots Q (F0 m pc ls (.ref v :: .int (nI k) :: .ref x :: rest)) := by
  obtain ⟨hx, hb, hml, hown, hts, hK⟩ := C0
  obtain ⟨hP, hD, hS, hA⟩ := hB
  subst hf
  subst hw
  refine va_astq hx hb hK hP hD hS q0 t0 qk ci ha ht hv hc (vp_in_nI hk hN) hdg (fun H1 locs1 hP1 hD1 hS1 => ?_)
  rw [nI_clamp (Nat.lt_trans hk hN)] at hP1 hD1
  exact kk H1 locs1 ⟨hP1, hD1, hS1, hA⟩
/-- newarray: the new cell is the world's last; its array class is the one that the tables know -/
theorem anw {atype : ArrayType} {ty : FieldType} {a0 : vp_A} {n : Nat} (C0 : cX p m c cc nL s args own g cl tys) (hB : wB g cl A H0 w H locs) (t0 : Nat) (ht : tys[t0]? = some (cA, ty)) (hty : newarray.typeOf atype = ty) (hprim : ∀ C, ty ≠ .object C) (harr : Cond.arrayClass (newarray.typeOf atype) ∈ gT) (ha : ∀ cA : ClassId, vp_cell cA a0 = arrV cA n (fun _ => defaultValue ty)) (hn : n < 2 ^ 20) (hby : n * componentBytes ty ≤ 536870912) (hcells : cells + 1 ≤ R.cells) (hslots : slots + n ≤ R.slots) (hdg : decode cc pc = .ok (.newarray atype, 2))
    (kk : ∀ (q : Nat) (H1 : Heap), wB g cl A H0 (w ++ [(q, .inl (cA, a0))]) H1 locs → W p l e R s m args below meth c H1 locs (cells + 1) (slots + n) Q (F0 m (pc + 2) ls (.ref q :: rest))) : W p l e R s m args below meth c H locs cells slots Q (F0 m pc ls (.int (nI n) :: rest)) := by
  obtain ⟨hx, hb, hml, hown, hts, hK⟩ := C0
  obtain ⟨hP, hD, hS, hA⟩ := hB
  have hn31 : n < 2 ^ 31 := Nat.lt_trans hn (by decide)
  refine va_newa hx hb (hts _ harr) hty hK hP hD hS hA ha (nI_pos hn31) (nI_clamp hn31) hby hcells hslots hdg (fun q cB H1 hK1 hP1 hD1 hS1 => ?_)
  have e : cB = cA := by
    have h1 := (hK1.2 tys.length (cB, ty) (by simp)).2
    have h2 := (hK.2 t0 (cA, ty) ht).2
    subst hty
    cases atype <;> exact Option.some.inj (h1.symm.trans h2)
  subst e
  exact kk q H1 ⟨hP1, hD1, hS1, hA⟩
end ROWS
end
section
/-! BELLMAN-FORD over arcs that are numbered 0 .. k-1: af (from), tt (to), ac (cost). A walk is a row of arc numbers. -/
abbrev bf_far : Nat := 9223372036854775807
def bf_walk (k : Nat) (af tt : Nat → Nat) (t : Nat) : Nat → List Nat → Prop
  | v, [] => v = t
  | v, j :: r => j < k ∧ af j = v ∧ bf_walk k af tt t (tt j) r
def bf_cost (ac : Nat → Nat) : List Nat → Nat
  | [] => 0
  | j :: r => ac j + bf_cost ac r
/-- the costs behind the first i arcs of one pass -/
def bf_it (af tt ac : Nat → Nat) (c0 : Nat → Nat) : Nat → Nat → Nat
  | 0 => c0
  | i + 1 => if bf_it af tt ac c0 i (tt i) ≠ bf_far ∧ bf_it af tt ac c0 i (tt i) + ac i < bf_it af tt ac c0 i (af i) then va_up (bf_it af tt ac c0 i) (af i) (bf_it af tt ac c0 i (tt i) + ac i) else bf_it af tt ac c0 i
/-- whether one of the first i arcs changed something -/
def bf_ch (af tt ac : Nat → Nat) (c0 : Nat → Nat) : Nat → Bool
  | 0 => false
  | i + 1 => bf_ch af tt ac c0 i || decide (bf_it af tt ac c0 i (tt i) ≠ bf_far ∧ bf_it af tt ac c0 i (tt i) + ac i < bf_it af tt ac c0 i (af i))
section BF
variable {k t : Nat} {af tt ac : Nat → Nat}
theorem bf_mono (c0 : Nat → Nat) : ∀ i v, bf_it af tt ac c0 i v ≤ c0 v
  | 0, v => Nat.le_refl _
  | i + 1, v => by
    have ih := bf_mono c0 i v
    unfold bf_it
    split
    · rename_i h
      by_cases hv : v = af i
      · subst hv
        rw [va_up_self]
        omega
      · rw [va_up_ne _ _ hv]
        exact ih
    · exact ih
theorem bf_le_far {c0 : Nat → Nat} (h : ∀ v, c0 v ≤ bf_far) (i v : Nat) : bf_it af tt ac c0 i v ≤ bf_far := Nat.le_trans (bf_mono c0 i v) (h v)
theorem bf_relaxed {c0 : Nat → Nat} (h : ∀ v, c0 v ≤ bf_far) : ∀ i j, j < i → c0 (tt j) ≠ bf_far → bf_it af tt ac c0 i (af j) ≤ c0 (tt j) + ac j
  | 0, j, hj, _ => absurd hj (Nat.not_lt_zero _)
  | i + 1, j, hj, hne => by
    have hs : ∀ v, bf_it af tt ac c0 (i + 1) v ≤ bf_it af tt ac c0 i v := by
      intro v
      conv => lhs; unfold bf_it
      split
      · rename_i h2
        by_cases hv : v = af i
        · subst hv
          rw [va_up_self]
          omega
        · rw [va_up_ne _ _ hv]
          exact Nat.le_refl _
      · exact Nat.le_refl _
    rcases Nat.lt_succ_iff_lt_or_eq.mp hj with h1 | h1
    · exact Nat.le_trans (hs _) (bf_relaxed h i j h1 hne)
    · subst h1
      have hm := bf_mono (af := af) (tt := tt) (ac := ac) c0 j (tt j)
      have hf := h (tt j)
      unfold bf_it
      split
      · rw [va_up_self]
        omega
      · rename_i h2
        have : bf_it af tt ac c0 j (tt j) ≠ bf_far := by omega
        have h3 : ¬ bf_it af tt ac c0 j (tt j) + ac j < bf_it af tt ac c0 j (af j) := fun q => h2 ⟨this, q⟩
        omega
theorem bf_still {c0 : Nat → Nat} : ∀ i, bf_ch af tt ac c0 i = false → bf_it af tt ac c0 i = c0 ∧ ∀ j, j < i → c0 (tt j) ≠ bf_far → c0 (af j) ≤ c0 (tt j) + ac j
  | 0, _ => ⟨rfl, fun j hj => absurd hj (Nat.not_lt_zero _)⟩
  | i + 1, h => by
    unfold bf_ch at h
    rw [Bool.or_eq_false_iff] at h
    obtain ⟨h1, h2⟩ := h
    obtain ⟨e1, e2⟩ := bf_still i h1
    rw [e1] at h2
    have h2 := of_decide_eq_false h2
    refine ⟨?_, ?_⟩
    · unfold bf_it
      rw [e1, if_neg h2]
    · intro j hj hne
      rcases Nat.lt_succ_iff_lt_or_eq.mp hj with h3 | h3
      · exact e2 j h3 hne
      · subst h3
        have h4 : ¬ c0 (tt j) + ac j < c0 (af j) := fun q => h2 ⟨hne, q⟩
        omega
/-- finite costs are costs of walks -/
def bf_snd (k : Nat) (af tt ac : Nat → Nat) (t : Nat) (c : Nat → Nat) : Prop := ∀ v, c v ≠ bf_far → ∃ w, bf_walk k af tt t v w ∧ bf_cost ac w = c v
theorem bf_snd_it {c0 : Nat → Nat} (h : bf_snd k af tt ac t c0) : ∀ i, i ≤ k → bf_snd k af tt ac t (bf_it af tt ac c0 i)
  | 0, _ => h
  | i + 1, hi => by
    have ih := bf_snd_it h i (by omega)
    intro v hv
    unfold bf_it at hv ⊢
    split
    · rename_i h1
      rw [if_pos h1] at hv
      by_cases hv2 : v = af i
      · subst hv2
        rw [va_up_self]
        obtain ⟨w, h2, h3⟩ := ih _ h1.1
        exact ⟨i :: w, ⟨by omega, rfl, h2⟩, by show ac i + bf_cost ac w = _; omega⟩
      · rw [va_up_ne _ _ hv2] at hv ⊢
        exact ih v hv
    · rename_i h1
      rw [if_neg h1] at hv
      exact ih v hv
/-- finite costs are small -/
def bf_bd (M : Nat) (c : Nat → Nat) : Prop := ∀ v, c v = bf_far ∨ c v ≤ M
theorem bf_bd_it {c0 : Nat → Nat} {M B : Nat} (h : bf_bd M c0) (hB : ∀ j, j < k → ac j ≤ B) : ∀ i, i ≤ k → bf_bd (M + i * B) (bf_it af tt ac c0 i)
  | 0, _ => fun v => by
    rcases h v with h1 | h1
    · exact Or.inl h1
    · exact Or.inr (by show c0 v ≤ _; omega)
  | i + 1, hi => by
    have ih := bf_bd_it h hB i (by omega)
    have hb := hB i (by omega)
    have e : M + (i + 1) * B = M + i * B + B := by rw [Nat.succ_mul]; omega
    rw [e]
    intro v
    unfold bf_it
    split
    · rename_i h1
      by_cases hv2 : v = af i
      · subst hv2
        rw [va_up_self]
        rcases ih (tt i) with h2 | h2
        · exact absurd h2 h1.1
        · exact Or.inr (by omega)
      · rw [va_up_ne _ _ hv2]
        rcases ih v with h2 | h2
        · exact Or.inl h2
        · exact Or.inr (by omega)
    · rcases ih v with h2 | h2
      · exact Or.inl h2
      · exact Or.inr (by omega)
theorem bf_cost_le {B : Nat} (hB : ∀ j, j < k → ac j ≤ B) : ∀ (w : List Nat) (v : Nat), bf_walk k af tt t v w → bf_cost ac w ≤ w.length * B
  | [], _, _ => Nat.zero_le _
  | j :: r, v, h => by
    have ih := bf_cost_le hB r _ h.2.2
    have := hB j h.1
    show ac j + bf_cost ac r ≤ (r.length + 1) * B
    rw [Nat.succ_mul]
    omega
/-- r passes: no walk of at most r arcs is cheaper -/
def bf_cmp (k : Nat) (af tt ac : Nat → Nat) (t r : Nat) (c : Nat → Nat) : Prop := ∀ v w, bf_walk k af tt t v w → w.length ≤ r → c v ≤ bf_cost ac w
theorem bf_cmp_pass {c0 : Nat → Nat} {B r : Nat} (hf : ∀ v, c0 v ≤ bf_far) (hB : ∀ j, j < k → ac j ≤ B) (hr : r * B < bf_far) (h : bf_cmp k af tt ac t r c0) : bf_cmp k af tt ac t (r + 1) (bf_it af tt ac c0 k) := by
  intro v w hw hl
  cases w with
  | nil => exact Nat.le_trans (bf_mono c0 k v) (h v [] hw (Nat.zero_le _))
  | cons j w' =>
    obtain ⟨h1, h2, h3⟩ := hw
    have hl' : w'.length ≤ r := by simpa using hl
    have h4 := h _ w' h3 hl'
    have h5 := bf_cost_le hB w' _ h3
    have h6 : w'.length * B ≤ r * B := Nat.mul_le_mul_right B hl'
    have h7 := bf_relaxed (af := af) (tt := tt) (ac := ac) hf k j h1 (by omega)
    subst h2
    show _ ≤ ac j + bf_cost ac w'
    omega
theorem bf_fix {c0 : Nat → Nat} (hf : ∀ v, c0 v ≤ bf_far) (ht : c0 t = 0) (h : ∀ j, j < k → c0 (tt j) ≠ bf_far → c0 (af j) ≤ c0 (tt j) + ac j) : ∀ (w : List Nat) (v : Nat), bf_walk k af tt t v w → c0 v ≤ bf_cost ac w
  | [], v, hw => by
    have e : v = t := hw
    rw [e, ht]
    exact Nat.zero_le _
  | j :: r, v, hw => by
    obtain ⟨h1, h2, h3⟩ := hw
    have ih := bf_fix hf ht h r _ h3
    subst h2
    show _ ≤ ac j + bf_cost ac r
    by_cases hn : c0 (tt j) = bf_far
    · have := hf (af j)
      omega
    · have := h j h1 hn
      omega
/-- the things on a walk -/
def bf_nodes (tt : Nat → Nat) (v : Nat) (w : List Nat) : List Nat := v :: w.map tt
theorem bf_suffix : ∀ (w : List Nat) (v u : Nat), bf_walk k af tt t v w → u ∈ bf_nodes tt v w → ∃ w', bf_walk k af tt t u w' ∧ bf_cost ac w' ≤ bf_cost ac w
  | [], v, u, hw, hu => by
    have e : u = v := by simpa [bf_nodes] using hu
    subst e
    exact ⟨[], hw, Nat.le_refl _⟩
  | j :: r, v, u, hw, hu => by
    rcases List.mem_cons.mp hu with e | h1
    · subst e
      exact ⟨j :: r, hw, Nat.le_refl _⟩
    · obtain ⟨w', h2, h3⟩ := bf_suffix r (tt j) u hw.2.2 h1
      exact ⟨w', h2, by show _ ≤ ac j + bf_cost ac r; omega⟩
/-- a cheapest walk -/
def bf_min (k : Nat) (af tt ac : Nat → Nat) (t v : Nat) (w : List Nat) : Prop := bf_walk k af tt t v w ∧ ∀ w', bf_walk k af tt t v w' → bf_cost ac w ≤ bf_cost ac w'
theorem bf_min_ex {v : Nat} (h : ∃ w, bf_walk k af tt t v w) : ∃ w, bf_min k af tt ac t v w := by
  obtain ⟨w0, h0⟩ := h
  obtain ⟨n, ⟨w, h1, h2⟩, h3⟩ := pk_least (fun n => ∃ w, bf_walk k af tt t v w ∧ bf_cost ac w = n) ⟨_, w0, h0, rfl⟩
  refine ⟨w, h1, fun w' h4 => ?_⟩
  rcases Nat.lt_or_ge (bf_cost ac w') (bf_cost ac w) with h5 | h5
  · exact absurd ⟨w', h4, rfl⟩ (h3 _ (by omega))
  · exact h5
theorem bf_min_tail {v j : Nat} {r : List Nat} (h : bf_min k af tt ac t v (j :: r)) : bf_min k af tt ac t (tt j) r := by
  refine ⟨h.1.2.2, fun w' h1 => ?_⟩
  have h2 := h.2 (j :: w') ⟨h.1.1, h.1.2.1, h1⟩
  have h3 : ac j + bf_cost ac r ≤ ac j + bf_cost ac w' := h2
  omega
theorem bf_min_nodup (hp : ∀ j, j < k → 0 < ac j) : ∀ (w : List Nat) (v : Nat), bf_min k af tt ac t v w → (bf_nodes tt v w).Nodup
  | [], v, _ => by simp [bf_nodes]
  | j :: r, v, h => by
    have ih := bf_min_nodup hp r _ (bf_min_tail h)
    show (v :: bf_nodes tt (tt j) r).Nodup
    refine List.nodup_cons.mpr ⟨fun hm => ?_, ih⟩
    obtain ⟨w', h1, h2⟩ := bf_suffix (ac := ac) r (tt j) v h.1.2.2 hm
    have h3 := h.2 w' h1
    have h4 : ac j + bf_cost ac r ≤ bf_cost ac w' := h3
    have := hp j h.1.1
    omega
/-- different numbers below n are at most n -/
theorem bf_pigeon : ∀ (n : Nat) (l : List Nat), l.Nodup → (∀ x ∈ l, x < n) → l.length ≤ n
  | 0, l, _, h => by
    cases l with
    | nil => exact Nat.le_refl _
    | cons a r => exact absurd (h a List.mem_cons_self) (Nat.not_lt_zero _)
  | n + 1, l, hd, h => by
    by_cases hn : n ∈ l
    · have h1 : (l.erase n).length = l.length - 1 := List.length_erase_of_mem hn
      have h2 : (l.erase n).Nodup := hd.erase n
      have h3 := bf_pigeon n (l.erase n) h2 (fun x hx => by
        have h4 := (hd.mem_erase_iff).mp hx
        have h5 := h x h4.2
        omega)
      omega
    · have h3 := bf_pigeon n l hd (fun x hx => by
        have h5 := h x hx
        have h6 : x ≠ n := fun e => hn (e ▸ hx)
        omega)
      omega
theorem bf_min_len {n v : Nat} {w : List Nat} (hp : ∀ j, j < k → 0 < ac j) (hn : ∀ j, j < k → tt j < n) (hv : v < n) (h : bf_min k af tt ac t v w) : w.length < n := by
  have h1 := bf_min_nodup hp w v h
  have hx : ∀ (w : List Nat) (v : Nat), v < n → bf_walk k af tt t v w → ∀ x ∈ bf_nodes tt v w, x < n := by
    intro w
    induction w with
    | nil =>
      intro v hv _ x hx
      have e : x = v := by simpa [bf_nodes] using hx
      rw [e]
      exact hv
    | cons j r ih =>
      intro v hv hw x hx
      rcases List.mem_cons.mp hx with e | h2
      · rw [e]; exact hv
      · exact ih (tt j) (hn j hw.1) hw.2.2 x h2
  have h2 := bf_pigeon n _ h1 (hx w v hv h.1)
  simp [bf_nodes] at h2
  omega
/-- EXACT costs: none is above far, a finite one is a walk's, no walk is cheaper -/
def bf_ex (k : Nat) (af tt ac : Nat → Nat) (t : Nat) (c : Nat → Nat) : Prop := (∀ v, c v ≤ bf_far) ∧ bf_snd k af tt ac t c ∧ ∀ v w, bf_walk k af tt t v w → c v ≤ bf_cost ac w
theorem bf_ex_fix {c : Nat → Nat} (hf : ∀ v, c v ≤ bf_far) (hs : bf_snd k af tt ac t c) (ht : c t = 0) (hc : bf_ch af tt ac c k = false) : bf_ex k af tt ac t c :=
  ⟨hf, hs, fun v w hw => bf_fix hf ht (bf_still k hc).2 w v hw⟩
theorem bf_ex_cmp {c : Nat → Nat} {n : Nat} (hf : ∀ v, c v ≤ bf_far) (hs : bf_snd k af tt ac t c) (hp : ∀ j, j < k → 0 < ac j) (hn : ∀ j, j < k → af j < n ∧ tt j < n) (htn : t < n) (hc : bf_cmp k af tt ac t n c) : bf_ex k af tt ac t c := by
  refine ⟨hf, hs, fun v w hw => ?_⟩
  obtain ⟨w0, h0⟩ := bf_min_ex (ac := ac) ⟨w, hw⟩
  have hv : v < n := by
    cases w with
    | nil => have e : v = t := hw; rw [e]; exact htn
    | cons j r => rw [← hw.2.1]; exact (hn j hw.1).1
  have h1 := bf_min_len hp (fun j h => (hn j h).2) hv h0
  exact Nat.le_trans (hc v w0 h0.1 (by omega)) (h0.2 w hw)
/-- an arc that is tight: it is on a cheapest walk from its beginning -/
def bf_tight (af tt ac c : Nat → Nat) (v j : Nat) : Prop := af j = v ∧ c (tt j) ≠ bf_far ∧ c (tt j) + ac j = c v
theorem bf_tight_ex {c : Nat → Nat} {v : Nat} (h : bf_ex k af tt ac t c) (hv : v ≠ t) (hc : c v ≠ bf_far) : ∃ j, j < k ∧ bf_tight af tt ac c v j := by
  obtain ⟨hf, hs, hm⟩ := h
  obtain ⟨w, hw, he⟩ := hs v hc
  cases w with
  | nil => exact absurd hw hv
  | cons j r =>
    have h1 := hm _ r hw.2.2
    have h2 : ac j + bf_cost ac r = c v := he
    have h3 := hf v
    have h4 : c (tt j) ≠ bf_far := by omega
    obtain ⟨w2, hw2, he2⟩ := hs _ h4
    have h5 := hm v (j :: w2) ⟨hw.1, hw.2.1, hw2⟩
    have h6 : c v ≤ ac j + bf_cost ac w2 := h5
    exact ⟨j, hw.1, hw.2.1, h4, by omega⟩
/-- a walk by tight arcs -/
def bf_tw (k : Nat) (af tt ac c : Nat → Nat) (t : Nat) : Nat → List Nat → Prop
  | v, [] => v = t
  | v, j :: r => j < k ∧ bf_tight af tt ac c v j ∧ bf_tw k af tt ac c t (tt j) r
theorem bf_tw_walk {c : Nat → Nat} : ∀ (w : List Nat) (v : Nat), bf_tw k af tt ac c t v w → bf_walk k af tt t v w
  | [], _, h => h
  | _ :: r, _, h => ⟨h.1, h.2.1.1, bf_tw_walk r _ h.2.2⟩
theorem bf_tw_cost {c : Nat → Nat} (ht : c t = 0) : ∀ (w : List Nat) (v : Nat), bf_tw k af tt ac c t v w → bf_cost ac w = c v
  | [], v, h => by
    have e : v = t := h
    rw [e, ht]
    rfl
  | j :: r, v, h => by
    have ih := bf_tw_cost ht r _ h.2.2
    have := h.2.1.2.2
    show ac j + bf_cost ac r = c v
    omega
theorem bf_tw_of {c : Nat → Nat} (h : bf_ex k af tt ac t c) : ∀ (w : List Nat) (v : Nat), bf_walk k af tt t v w → bf_cost ac w ≤ c v → c v ≠ bf_far → bf_tw k af tt ac c t v w
  | [], _, hw, _, _ => hw
  | j :: r, v, hw, hl, hc => by
    obtain ⟨hf, hs, hm⟩ := id h
    have h1 := hm _ r hw.2.2
    have h2 : ac j + bf_cost ac r ≤ c v := hl
    have h3 := hf v
    have h4 : c (tt j) ≠ bf_far := by omega
    obtain ⟨w2, hw2, he2⟩ := hs _ h4
    have h5 := hm v (j :: w2) ⟨hw.1, hw.2.1, hw2⟩
    have h6 : c v ≤ ac j + bf_cost ac w2 := h5
    exact ⟨hw.1, ⟨hw.2.1, h4, by omega⟩, bf_tw_of h r _ hw.2.2 (by omega) h4⟩
end BF
end

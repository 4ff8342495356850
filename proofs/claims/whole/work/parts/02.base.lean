/-! THE BASE: one world for the whole system (a list of cells), passed whole to every method; contracts that say what comes back. -/
def gT : List Cond := lw_tbl.filter goodWord
theorem gT_in {w : Cond} (h : w ∈ lw_tbl) (hg : goodWord w = true) : w ∈ gT := List.mem_filter.mpr ⟨h, hg⟩
theorem gT_good {w : Cond} (h : w ∈ gT) : (w.onTables && w.keeps) = true ∨ ∃ ty, w = .arrayClass ty := good_of_word (List.mem_filter.mp h).2
/-- a method's words: its own code, and the tables -/
def gW (y : MethodName) (b : ByteArray) (n : Nat) (r : Option FieldType) : List Cond := .code y b n r :: gT
theorem gW_good {y : MethodName} {b : ByteArray} {n : Nat} {r : Option FieldType} (h : Cond.code y b n r ∈ gT) : GoodIn gT (gW y b n r) := by
  intro w hw
  rcases List.mem_cons.mp hw with e | h1
  · subst e
    exact ⟨h, gT_good h⟩
  · exact ⟨h1, gT_good h1⟩
theorem gW_V {y : MethodName} {b : ByteArray} {n i : Nat} {r : Option FieldType} {own C : String} (h : Cond.code y b n r ∈ gT) (h1 : Cond.methodLink own i y ∈ gT) (h2 : Cond.instanceMethod y ∈ gT) (h3 : Cond.selects C y y ∈ gT) (h4 : Cond.initialized C ∈ gT) : GoodIn gT (wsV own i C y (gW y b n r)) := by
  intro w hw
  rcases List.mem_append.mp hw with h5 | h5
  · simp only [List.mem_cons, List.not_mem_nil, or_false] at h5
    rcases h5 with e | e | e | e <;> subst e
    · exact ⟨h1, gT_good h1⟩
    · exact ⟨h2, gT_good h2⟩
    · exact ⟨h3, gT_good h3⟩
    · exact ⟨h4, gT_good h4⟩
  · exact gW_good h w h5
theorem gW_S {y : MethodName} {b : ByteArray} {n i : Nat} {r : Option FieldType} {own : String} (h : Cond.code y b n r ∈ gT) (h1 : Cond.methodLink own i y ∈ gT) (h2 : Cond.static y ∈ gT) (h4 : Cond.initialized y.cls ∈ gT) : GoodIn gT (va_wsS own i y (gW y b n r)) := by
  intro w hw
  rcases List.mem_append.mp hw with h5 | h5
  · simp only [List.mem_cons, List.not_mem_nil, or_false] at h5
    rcases h5 with e | e | e <;> subst e
    · exact ⟨h1, gT_good h1⟩
    · exact ⟨h2, gT_good h2⟩
    · exact ⟨h4, gT_good h4⟩
  · exact gW_good h w h5
/-- what the tables say of classes and array classes, and that rows of ints can be cloned -/
def kX (g : va_G) (cl : List vw_C) (tys : List (ClassId × FieldType)) (U : State) : Prop := va_K g cl tys U ∧ va_Nw (.castable "[I" "java/lang/Cloneable") U
theorem kX.warm {g : va_G} {cl : List vw_C} {tys : List (ClassId × FieldType)} {s U : State} (hW : s.WarmedH U.vm) (h : kX g cl tys s) : kX g cl tys U := ⟨va_K.moved hW.alike h.1, va_Nw.warmC hW h.2⟩
theorem kX.same {g : va_G} {cl : List vw_C} {tys : List (ClassId × FieldType)} {s U : State} (hv : s.vm = U.vm) (h : kX g cl tys s) : kX g cl tys U := ⟨va_K.moved (by rw [hv]; exact Vm.Alike.refl _) h.1, va_tabs rfl hv h.2⟩
/-- the world, and what has been written since H0 -/
def wB (g : va_G) (cl : List vw_C) (A : Nat → Prop) (H0 : Heap) (w : va_W) (H : Heap) (locs : List Loc) : Prop := va_P g cl w H ∧ va_D A w ∧ va_S A H0 H locs ∧ ∀ q, H0.size ≤ q → A q
/-- a method's own surroundings, which don't change while it runs -/
def cX (p : Program) (m : MethodId) (c : Code) (cc : ByteArray) (nL : Nat) (s : State) (args : Array Value) (own : String) (g : va_G) (cl : List vw_C) (tys : List (ClassId × FieldType)) : Prop := p.tables.exec = Jvm.exec ∧ c.code = cc ∧ c.maxLocals = nL ∧ s.vm.findClass own = some m.cls ∧ (∀ w ∈ gT, w.before args s = true) ∧ kX g cl tys s
def bI (b : Bool) : Int32 := if b then 1 else 0
theorem bI_t : bI true = 1 := rfl
theorem bI_f : bI false = 0 := rfl
theorem bI_0 {b : Bool} : bI b = 0 ↔ b = false := by cases b <;> simp [bI]
theorem bI_n0 {b : Bool} : ¬ bI b = 0 ↔ b = true := by cases b <;> simp [bI]
theorem bI_inj {a b : Bool} : bI a = bI b ↔ a = b := by cases a <;> cases b <;> simp [bI]
theorem bI_nar (b : Bool) : narrow .boolean (.int (bI b)) = .int (bI b) := by cases b <;> rfl
theorem bI_vp (b : Bool) : vp_nar .boolean (bI b) = bI b := by cases b <;> rfl
/-- a method that only reads: it answers v -/
def Rd (l : Launch) (y : MethodName) (ws : List Cond) (rm : Room) (g : va_G) (cl : List vw_C) (tys : List (ClassId × FieldType)) (av : List Value) (w : va_W) (v : Option Value) : Prop :=
  Met l y ws rm (va_Pc av (fun U => va_P g cl w U.heap ∧ kX g cl tys U)) (fun _ st o t => o = .returned v ∧ t.heap = st.heap) 0 0 (fun _ => False)
/-- a method that writes in the world w, or makes cells: some u, with its answer and the world w1 u -/
def Mt (l : Launch) (y : MethodName) (ws : List Cond) (rm : Room) (g : va_G) (cl : List vw_C) (tys : List (ClassId × FieldType)) (av : List Value) (w : va_W) {S : Type} (post : Option Value → S → Prop) (w1 : S → va_W) (mc ms : Nat) : Prop :=
  ∀ sz : Nat, Met l y ws rm (va_Pc av (fun U => U.heap.size = sz ∧ va_P g cl w U.heap ∧ kX g cl tys U ∧ va_D (fun _ => True) w)) (fun _ st o t => (∃ (v : Option Value) (u : S), o = .returned v ∧ post v u ∧ va_P g cl (w1 u) t.heap ∧ va_D (va_A w sz) (w1 u)) ∧ va_F (va_A w sz) st t) mc ms (va_A w sz)
section BASE
variable {p : Program} {l : Launch} {e : Env} {R : Room} {s : State} {m : MethodId} {args : Array Value} {below : List Frame} {meth : Method} {c : Code} {H : Heap} {locs : List Loc} {cells slots : Nat} {Q : State → Prop}
variable {cc : ByteArray} {nL pc index n maxL : Nat} {ls : Array Slot} {rest st As : List Value} {own C : String} {g : va_G} {cl : List vw_C} {tys : List (ClassId × FieldType)} {A : Nat → Prop} {H0 : Heap} {w : va_W} {y : MethodName} {bytes : ByteArray} {ret : Option FieldType} {ws : List Cond} {rm : Room} {mc ms : Nat} {b : Nat} {v : Option Value}
theorem Rd.of {av : List Value} (hy : plainName y.cls = true) (hw : ws = gW y cc maxL ret) (hown : y.cls = own) (hav : (lg_sl av).length ≤ maxL)
    (body : ∀ (p : Program) (e : Env) (s : State) (m : MethodId) (args : Array Value) (below : List Frame) (meth : Method) (c : Code), cX p m c cc maxL s args own g cl tys → meth.sig.returnType = ret → meth.locks = false → va_P g cl w s.heap → ∀ ls : Array Slot, lv_has ls maxL (lv_args 0 av) → W p l e rm s m args below meth c s.heap [] 0 0 (MQ below (fun _ st o t => o = .returned v ∧ t.heap = st.heap) args s 0 0 (fun _ => False)) (F0 m 0 ls [])) : Rd l y ws rm g cl tys av w v := by
  subst hw
  subst hown
  refine Met.ofW (cc := cc) (maxL := maxL) (ret := ret) hy rfl ?_
  intro p e s m args below meth c s₁ B hml hv
  obtain ⟨rfl, hP, hK⟩ := hv
  have hts := atoms_spec (ws := gW y cc maxL ret) B.pre
  have hl := lv_entry av (n := maxL) hav
  rw [lg_entry_eq]
  exact body p e s m _ below meth c ⟨B.exec, B.bytes, hml, findClass_of_methodNamed B.named, fun x hx => hts x (List.mem_cons_of_mem _ hx), hK⟩ B.returns B.notSynchronized hP _ hl
theorem Mt.of {av : List Value} {S : Type} {post : Option Value → S → Prop} {w1 : S → va_W} (hy : plainName y.cls = true) (hw : ws = gW y cc maxL ret) (hown : y.cls = own) (hav : (lg_sl av).length ≤ maxL)
    (body : ∀ (p : Program) (e : Env) (s : State) (m : MethodId) (args : Array Value) (below : List Frame) (meth : Method) (c : Code), cX p m c cc maxL s args own g cl tys → meth.sig.returnType = ret → meth.locks = false → meth.name = y.name → ∀ (A : Nat → Prop), A = va_A w s.heap.size → wB g cl A s.heap w s.heap [] → ∀ ls : Array Slot, lv_has ls maxL (lv_args 0 av) → W p l e rm s m args below meth c s.heap [] 0 0 (MQ below (fun _ st o t => (∃ (v : Option Value) (u : S), o = .returned v ∧ post v u ∧ va_P g cl (w1 u) t.heap ∧ va_D A (w1 u)) ∧ va_F A st t) args s mc ms A) (F0 m 0 ls [])) : Mt l y ws rm g cl tys av w post w1 mc ms := by
  intro sz
  subst hw
  subst hown
  refine Met.ofW (cc := cc) (maxL := maxL) (ret := ret) hy rfl ?_
  intro p e s m args below meth c s₁ B hml hv
  obtain ⟨rfl, hsz, hP, hK, hD⟩ := hv
  subst hsz
  have hts := atoms_spec (ws := gW y cc maxL ret) B.pre
  have hl := lv_entry av (n := maxL) hav
  rw [lg_entry_eq]
  exact body p e s m _ below meth c ⟨B.exec, B.bytes, hml, findClass_of_methodNamed B.named, fun x hx => hts x (List.mem_cons_of_mem _ hx), hK⟩ B.returns B.notSynchronized (name_of_methodNamed B.named B.method).1 _ rfl ⟨hP, hD.self, va_S.rf, fun _ h => Or.inr h⟩ _ hl
/-- behind a call: the callee's frame is in ours -/
theorem wB.free (hB : wB g cl A H0 w H locs) : ∀ q, va_A w H.size q → A q := by
  obtain ⟨hP, hD, hS, hA⟩ := hB
  intro q h
  rcases h with ⟨k, x, h⟩ | h
  · exact hD.2 k _ h
  · exact hA q (Nat.le_trans hS.1 h)
theorem cR (C0 : cX p m c cc nL s args own g cl tys) (hM : Rd l y ws rm g cl tys (.ref b :: As) w v) (cw : CallW R s args own C index y bytes maxL ret ws rm 0 0 n) {ci q0 : Nat} {q : vw_C} {fs : List Value} (hc : cl[ci]? = some q) (hq : q.1 = C) (he : w[q0]? = some (b, .inr (ci, fs))) (hP : va_P g cl w H) (hl : ls.size = nL) (hn : As.length = n) (hst : st = As.reverse ++ .ref b :: rest) (hr : (rest.map fun v => v.category).sum ≤ 8) (hdg : decode cc pc = .ok (.invokevirtual index, 3)) (hf : cells ≤ R.cells ∧ slots ≤ R.slots)
    (kk : W p l e R s m args below meth c H locs cells slots Q (F0 m (pc + 3) ls (v.toList ++ rest))) : W p l e R s m args below meth c H locs cells slots Q (F0 m pc ls st) := by
  obtain ⟨hx, hb, hml, hown, hts, hK⟩ := C0
  subst hq
  subst hst
  have hrun := W.runV (As := As) (rest := rest) (locs := locs) (cells := cells) (slots := slots) (e := e) (below := below) (meth := meth) (g := F0 m pc ls (As.reverse ++ .ref b :: rest)) ⟨hx, hb, hml, hown, hts⟩ hM cw
    ⟨fun a U g mk q => by obtain ⟨q0, qP, qK⟩ := q; exact ⟨q0, qP, kX.same (s := U) (U := U.calling g mk a) rfl qK⟩, va_recv hK.1 hP hc he, fun U hU hW => ⟨rfl, by rw [hU]; exact hP, kX.warm hW hK⟩⟩ rfl hn hl rfl (lv_room hr) hdg hf
  intro T hT X
  obtain ⟨v', st₀, t, T', L, h0, X', hL, e1, ⟨hv, hh⟩, hs⟩ := hrun T hT X
  cases hv
  obtain ⟨t2, a1, b1⟩ := kk T' (by rw [e1, hh, h0]) (Stand.forget X' (fun q h => (hL q h).elim))
  exact ⟨t2, hs t2 a1, b1⟩
theorem cRS (C0 : cX p m c cc nL s args own g cl tys) (hM : Rd l y ws rm g cl tys As w v) (cw : CallB R s args own index y bytes maxL ret ws rm 0 0 n ∧ (Cond.static y).before args s = true) (hP : va_P g cl w H) (hl : ls.size = nL) (hn : As.length = n) (hst : st = As.reverse ++ rest) (hr : (rest.map fun v => v.category).sum ≤ 8) (hdg : decode cc pc = .ok (.invokestatic index, 3)) (hf : cells ≤ R.cells ∧ slots ≤ R.slots)
    (kk : W p l e R s m args below meth c H locs cells slots Q (F0 m (pc + 3) ls (v.toList ++ rest))) : W p l e R s m args below meth c H locs cells slots Q (F0 m pc ls st) := by
  obtain ⟨hx, hb, hml, hown, hts, hK⟩ := C0
  subst hst
  have hrun := W.runS (As := As) (rest := rest) (locs := locs) (cells := cells) (slots := slots) (e := e) (below := below) (meth := meth) (g := F0 m pc ls (As.reverse ++ rest)) ⟨hx, hb, hml, hown, hts⟩ hM cw
    ⟨fun a U g mk q => by obtain ⟨q0, qP, qK⟩ := q; exact ⟨q0, qP, kX.same (s := U) (U := U.calling g mk a) rfl qK⟩, fun U hU hW => ⟨rfl, by rw [hU]; exact hP, kX.warm hW hK⟩⟩ rfl hn hl rfl (lv_room hr) hdg hf
  intro T hT X
  obtain ⟨v', st₀, t, T', L, h0, X', hL, e1, ⟨hv, hh⟩, hs⟩ := hrun T hT X
  cases hv
  obtain ⟨t2, a1, b1⟩ := kk T' (by rw [e1, hh, h0]) (Stand.forget X' (fun q h => (hL q h).elim))
  exact ⟨t2, hs t2 a1, b1⟩
/-- what a caller goes on with behind a call of an Mt -/
theorem cM_on {S : Type} {post : Option Value → S → Prop} {w1 : S → va_W} {T : State} {jf : JFrame} (hB : wB g cl A H0 w H locs)
    (hr : CallRun p l e R s m args below meth c H locs cells slots mc ms jf rest (fun st o t => (∃ (v : Option Value) (u : S), o = .returned v ∧ post v u ∧ va_P g cl (w1 u) t.heap ∧ va_D (va_A w H.size) (w1 u)) ∧ va_F (va_A w H.size) st t) (va_A w H.size))
    (kk : ∀ (v : Option Value) (u : S) (H1 : Heap) (locs1 : List Loc), post v u → wB g cl A H0 (w1 u) H1 locs1 → W p l e R s m args below meth c H1 locs1 (cells + mc) (slots + ms) Q { jf with pc := jf.pc + 3, stack := v.toList ++ rest }) : W p l e R s m args below meth c H locs cells slots Q jf := by
  intro T hT X
  have hF := hB.free
  obtain ⟨hP, hD, hS, hA⟩ := hB
  obtain ⟨v', st₀, t, T', L, h0, X', hL, e1, ⟨⟨v, u, hv, hp, hP1, hD1⟩, hF1⟩, hs⟩ := hr T hT X
  cases hv
  subst h0
  have hB1 : wB g cl A H0 (w1 u) t.heap (locs ++ L) := by
    refine ⟨hP1, hD1.weaken (fun _ _ _ h => hF _ h), ⟨Nat.le_trans hS.1 hF1.1, fun q h1 h2 => ?_, fun x hx => ?_⟩, hA⟩
    · rw [hF1.2 q (Nat.lt_of_lt_of_le h1 hS.1) (fun h3 => h2 (hF _ h3))]
      exact hS.2.1 q h1 h2
    · rcases List.mem_append.mp hx with h | h
      · exact hS.2.2 x h
      · exact hF _ (hL x h)
  obtain ⟨t2, a1, b1⟩ := kk _ u t.heap (locs ++ L) hp hB1 T' e1 X'
  exact ⟨t2, hs t2 a1, b1⟩
theorem cM {S : Type} {post : Option Value → S → Prop} {w1 : S → va_W} (C0 : cX p m c cc nL s args own g cl tys) (hM : Mt l y ws rm g cl tys (.ref b :: As) w post w1 mc ms) (cw : CallW R s args own C index y bytes maxL ret ws rm mc ms n) {ci q0 : Nat} {q : vw_C} {fs : List Value} (hc : cl[ci]? = some q) (hq : q.1 = C) (he : w[q0]? = some (b, .inr (ci, fs))) (hB : wB g cl A H0 w H locs) (hl : ls.size = nL) (hn : As.length = n) (hst : st = As.reverse ++ .ref b :: rest) (hr : (rest.map fun v => v.category).sum ≤ 8) (hdg : decode cc pc = .ok (.invokevirtual index, 3)) (hf : cells + mc ≤ R.cells ∧ slots + ms ≤ R.slots)
    (kk : ∀ (v : Option Value) (u : S) (H1 : Heap) (locs1 : List Loc), post v u → wB g cl A H0 (w1 u) H1 locs1 → W p l e R s m args below meth c H1 locs1 (cells + mc) (slots + ms) Q (F0 m (pc + 3) ls (v.toList ++ rest))) : W p l e R s m args below meth c H locs cells slots Q (F0 m pc ls st) := by
  obtain ⟨hx, hb, hml, hown, hts, hK⟩ := C0
  subst hq
  subst hst
  have hrun := W.runV (As := As) (rest := rest) (locs := locs) (cells := cells) (slots := slots) (e := e) (below := below) (meth := meth) (g := F0 m pc ls (As.reverse ++ .ref b :: rest)) ⟨hx, hb, hml, hown, hts⟩ (hM H.size) cw
    ⟨fun a U g mk q => by obtain ⟨q0, q1, qP, qK, qD⟩ := q; exact ⟨q0, q1, qP, kX.same (s := U) (U := U.calling g mk a) rfl qK, qD⟩, va_recv hK.1 hB.1 hc he, fun U hU hW => ⟨rfl, by rw [hU], by rw [hU]; exact hB.1, kX.warm hW hK, hB.2.1.weaken (fun _ _ _ _ => trivial)⟩⟩ rfl hn hl rfl (lv_room hr) hdg hf
  exact cM_on (T := s) hB hrun kk
theorem cMS {S : Type} {post : Option Value → S → Prop} {w1 : S → va_W} (C0 : cX p m c cc nL s args own g cl tys) (hM : Mt l y ws rm g cl tys As w post w1 mc ms) (cw : CallB R s args own index y bytes maxL ret ws rm mc ms n ∧ (Cond.static y).before args s = true) (hB : wB g cl A H0 w H locs) (hl : ls.size = nL) (hn : As.length = n) (hst : st = As.reverse ++ rest) (hr : (rest.map fun v => v.category).sum ≤ 8) (hdg : decode cc pc = .ok (.invokestatic index, 3)) (hf : cells + mc ≤ R.cells ∧ slots + ms ≤ R.slots)
    (kk : ∀ (v : Option Value) (u : S) (H1 : Heap) (locs1 : List Loc), post v u → wB g cl A H0 (w1 u) H1 locs1 → W p l e R s m args below meth c H1 locs1 (cells + mc) (slots + ms) Q (F0 m (pc + 3) ls (v.toList ++ rest))) : W p l e R s m args below meth c H locs cells slots Q (F0 m pc ls st) := by
  obtain ⟨hx, hb, hml, hown, hts, hK⟩ := C0
  subst hst
  have hrun := W.runS (As := As) (rest := rest) (locs := locs) (cells := cells) (slots := slots) (e := e) (below := below) (meth := meth) (g := F0 m pc ls (As.reverse ++ rest)) ⟨hx, hb, hml, hown, hts⟩ (hM H.size) cw
    ⟨fun a U g mk q => by obtain ⟨q0, q1, qP, qK, qD⟩ := q; exact ⟨q0, q1, qP, kX.same (s := U) (U := U.calling g mk a) rfl qK, qD⟩, fun U hU hW => ⟨rfl, by rw [hU], by rw [hU]; exact hB.1, kX.warm hW hK, hB.2.1.weaken (fun _ _ _ _ => trivial)⟩⟩ rfl hn hl rfl (lv_room hr) hdg hf
  exact cM_on (T := s) hB hrun kk
theorem cMI {S : Type} {post : Option Value → S → Prop} {w1 : S → va_W} (C0 : cX p m c cc nL s args own g cl tys) (hM : Mt l y ws rm g cl tys (.ref b :: As) w post w1 mc ms) (cw : CallB R s args own index y bytes maxL none ws rm mc ms n ∧ y.name = "<init>" ∧ (Cond.instanceMethod y).before args s = true) (hB : wB g cl A H0 w H locs) (hl : ls.size = nL) (hn : As.length = n) (hst : st = As.reverse ++ .ref b :: rest) (hr : (rest.map fun v => v.category).sum ≤ 8) (hdg : decode cc pc = .ok (.invokespecial index, 3)) (hf : cells + mc ≤ R.cells ∧ slots + ms ≤ R.slots)
    (kk : ∀ (v : Option Value) (u : S) (H1 : Heap) (locs1 : List Loc), post v u → wB g cl A H0 (w1 u) H1 locs1 → W p l e R s m args below meth c H1 locs1 (cells + mc) (slots + ms) Q (F0 m (pc + 3) ls (v.toList ++ rest))) : W p l e R s m args below meth c H locs cells slots Q (F0 m pc ls st) := by
  obtain ⟨hx, hb, hml, hown, hts, hK⟩ := C0
  subst hst
  have hrun := W.runI (As := As) (rest := rest) (locs := locs) (cells := cells) (slots := slots) (e := e) (below := below) (meth := meth) (g := F0 m pc ls (As.reverse ++ .ref b :: rest)) ⟨hx, hb, hml, hown, hts⟩ (hM H.size) cw
    ⟨fun a U g mk q => by obtain ⟨q0, q1, qP, qK, qD⟩ := q; exact ⟨q0, q1, qP, kX.same (s := U) (U := U.calling g mk a) rfl qK, qD⟩, fun U hU hW => ⟨rfl, by rw [hU], by rw [hU]; exact hB.1, kX.warm hW hK, hB.2.1.weaken (fun _ _ _ _ => trivial)⟩⟩ rfl hn hl rfl (lv_room hr) hdg hf
  exact cM_on (T := s) hB hrun kk
-- ends
theorem eR_i {r : Int32} (C0 : cX p m c cc nL s args own g cl tys) (hr : meth.sig.returnType = some .int) (hlk : meth.locks = false) (hv : v = some (.int r)) (hdg : decode cc pc = .ok (.ireturn, 1)) : W p l e R s m args below meth c s.heap [] 0 0 (MQ below (fun _ st o t => o = .returned v ∧ t.heap = st.heap) args s 0 0 (fun _ => False)) (F0 m pc ls [.int r]) :=
  W.iret C0.1 C0.2.1 hr (fun t ht _ => ⟨by rw [hv], ht⟩) (fun _ h => by cases h) hdg hlk
theorem eR_z {r : Int32} {b : Bool} (C0 : cX p m c cc nL s args own g cl tys) (hr : meth.sig.returnType = some .boolean) (hlk : meth.locks = false) (hb : r = bI b) (hv : v = some (.int (bI b))) (hdg : decode cc pc = .ok (.ireturn, 1)) : W p l e R s m args below meth c s.heap [] 0 0 (MQ below (fun _ st o t => o = .returned v ∧ t.heap = st.heap) args s 0 0 (fun _ => False)) (F0 m pc ls [.int r]) := by
  subst hb
  exact W.zret C0.1 C0.2.1 hr (bI_nar b) (fun t ht _ => ⟨by rw [hv], ht⟩) (fun _ h => by cases h) hdg hlk
theorem eR_l {r : Int64} (C0 : cX p m c cc nL s args own g cl tys) (hr : meth.sig.returnType = some .long) (hlk : meth.locks = false) (hv : v = some (.long r)) (hdg : decode cc pc = .ok (.lreturn, 1)) : W p l e R s m args below meth c s.heap [] 0 0 (MQ below (fun _ st o t => o = .returned v ∧ t.heap = st.heap) args s 0 0 (fun _ => False)) (F0 m pc ls [.long r]) :=
  W.lret C0.1 C0.2.1 hr (fun t ht _ => ⟨by rw [hv], ht⟩) (fun _ h => by cases h) hdg hlk
theorem eR_a {r : Value} {rt : FieldType} (C0 : cX p m c cc nL s args own g cl tys) (hr : meth.sig.returnType = some rt) (hrt : (∃ n, rt = .object n) ∨ ∃ t, rt = .array t) (hlk : meth.locks = false) (hv : v = some r) (hr2 : r = .null ∨ ∃ a, r = .ref a) (hdg : decode cc pc = .ok (.areturn, 1)) : W p l e R s m args below meth c s.heap [] 0 0 (MQ below (fun _ st o t => o = .returned v ∧ t.heap = st.heap) args s 0 0 (fun _ => False)) (F0 m pc ls [r]) :=
  W.aret C0.1 C0.2.1 hr hrt hr2 (fun t ht _ => ⟨by rw [hv], ht⟩) (fun _ h => by cases h) hdg hlk
theorem eM_v {S : Type} {post : Option Value → S → Prop} {w1 : S → va_W} (C0 : cX p m c cc nL s args own g cl tys) (hr : meth.sig.returnType = none) (hlk : meth.locks = false) (u : S) (hB : wB g cl A s.heap (w1 u) H locs) (hp : post none u) (h1 : cells ≤ mc) (h2 : slots ≤ ms) (hdg : decode cc pc = .ok (.return_, 1)) : W p l e R s m args below meth c H locs cells slots (MQ below (fun _ st o t => (∃ (v : Option Value) (u : S), o = .returned v ∧ post v u ∧ va_P g cl (w1 u) t.heap ∧ va_D A (w1 u)) ∧ va_F A st t) args s mc ms A) (F0 m pc ls []) :=
  W.widen h1 h2 (W.vret C0.1 C0.2.1 hr (fun t ht _ => ⟨⟨none, u, rfl, hp, by rw [ht]; exact hB.1, hB.2.1⟩, hB.2.2.1.F ht⟩) hB.2.2.1.2.2 hdg hlk)
theorem eM_i {S : Type} {post : Option Value → S → Prop} {w1 : S → va_W} {r : Int32} (C0 : cX p m c cc nL s args own g cl tys) (hr : meth.sig.returnType = some .int) (hlk : meth.locks = false) (u : S) (hB : wB g cl A s.heap (w1 u) H locs) (hp : post (some (.int r)) u) (h1 : cells ≤ mc) (h2 : slots ≤ ms) (hdg : decode cc pc = .ok (.ireturn, 1)) : W p l e R s m args below meth c H locs cells slots (MQ below (fun _ st o t => (∃ (v : Option Value) (u : S), o = .returned v ∧ post v u ∧ va_P g cl (w1 u) t.heap ∧ va_D A (w1 u)) ∧ va_F A st t) args s mc ms A) (F0 m pc ls [.int r]) :=
  W.widen h1 h2 (W.iret C0.1 C0.2.1 hr (fun t ht _ => ⟨⟨_, u, rfl, hp, by rw [ht]; exact hB.1, hB.2.1⟩, hB.2.2.1.F ht⟩) hB.2.2.1.2.2 hdg hlk)
theorem eM_z {S : Type} {post : Option Value → S → Prop} {w1 : S → va_W} {r : Int32} {b : Bool} (C0 : cX p m c cc nL s args own g cl tys) (hr : meth.sig.returnType = some .boolean) (hlk : meth.locks = false) (u : S) (hb : r = bI b) (hB : wB g cl A s.heap (w1 u) H locs) (hp : post (some (.int (bI b))) u) (h1 : cells ≤ mc) (h2 : slots ≤ ms) (hdg : decode cc pc = .ok (.ireturn, 1)) : W p l e R s m args below meth c H locs cells slots (MQ below (fun _ st o t => (∃ (v : Option Value) (u : S), o = .returned v ∧ post v u ∧ va_P g cl (w1 u) t.heap ∧ va_D A (w1 u)) ∧ va_F A st t) args s mc ms A) (F0 m pc ls [.int r]) := by
  subst hb
  exact W.widen h1 h2 (W.zret C0.1 C0.2.1 hr (bI_nar b) (fun t ht _ => ⟨⟨_, u, rfl, hp, by rw [ht]; exact hB.1, hB.2.1⟩, hB.2.2.1.F ht⟩) hB.2.2.1.2.2 hdg hlk)
theorem eM_a {S : Type} {post : Option Value → S → Prop} {w1 : S → va_W} {r : Value} {rt : FieldType} (C0 : cX p m c cc nL s args own g cl tys) (hr : meth.sig.returnType = some rt) (hrt : (∃ n, rt = .object n) ∨ ∃ t, rt = .array t) (hlk : meth.locks = false) (u : S) (hr2 : r = .null ∨ ∃ a, r = .ref a) (hB : wB g cl A s.heap (w1 u) H locs) (hp : post (some r) u) (h1 : cells ≤ mc) (h2 : slots ≤ ms) (hdg : decode cc pc = .ok (.areturn, 1)) : W p l e R s m args below meth c H locs cells slots (MQ below (fun _ st o t => (∃ (v : Option Value) (u : S), o = .returned v ∧ post v u ∧ va_P g cl (w1 u) t.heap ∧ va_D A (w1 u)) ∧ va_F A st t) args s mc ms A) (F0 m pc ls [r]) :=
  W.widen h1 h2 (W.aret C0.1 C0.2.1 hr hrt hr2 (fun t ht _ => ⟨⟨_, u, rfl, hp, by rw [ht]; exact hB.1, hB.2.1⟩, hB.2.2.1.F ht⟩) hB.2.2.1.2.2 hdg hlk)
end BASE

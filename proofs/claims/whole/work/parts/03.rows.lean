/-! ROWS over the base: arrays by natural indices, long compares, bool contents -/
theorem up_nI {f : Nat → Nat} {k v : Nat} : upd (fun j => nI (f j)) k (nI v) = fun j => nI (va_up f k v j) := by
  funext j
  by_cases h : j = k
  · simp [upd, va_up, h]
  · simp [upd, va_up, h]
theorem up_bI {f : Nat → Bool} {k : Nat} {v : Bool} : upd (fun j => bI (f j)) k (bI v) = fun j => bI (va_up f k v j) := by
  funext j
  by_cases h : j = k
  · simp [upd, va_up, h]
  · simp [upd, va_up, h]
theorem up_lN {f : Nat → Nat} {k v : Nat} : vp_updL (fun j => lN (f j)) k (lN v) = fun j => lN (va_up f k v j) := by
  funext j
  by_cases h : j = k
  · simp [vp_updL, va_up, h]
  · simp [vp_updL, va_up, h]
theorem up_32 {f : Nat → Int32} {k : Nat} {v : Int32} : upd f k v = va_up f k v := by
  funext j
  by_cases h : j = k
  · simp [upd, va_up, h]
  · simp [upd, va_up, h]
section ROWS
variable {p : Program} {l : Launch} {e : Env} {R : Room} {s : State} {m : MethodId} {args : Array Value} {below : List Frame} {meth : Method} {c : Code} {H : Heap} {locs : List Loc} {cells slots : Nat} {Q : State → Prop}
variable {cc : ByteArray} {nL pc : Nat} {ls : Array Slot} {rest : List Value} {own : String} {g : va_G} {cl : List vw_C} {tys : List (ClassId × FieldType)} {A : Nat → Prop} {H0 : Heap} {w w' : va_W} {x k N : Nat} {cA : ClassId}
theorem ald_i {f : Nat → Int32} (C0 : cX p m c cc nL s args own g cl tys) (hP : va_P g cl w H) (q0 t0 : Nat) (ha : w[q0]? = some (x, .inl (cA, N, .inl f))) (ht : tys[t0]? = some (cA, .int)) (hk : k < N) (hN : N < 2 ^ 31) (hdg : decode cc pc = .ok (.iaload, 1))
    (kk : W p l e R s m args below meth c H locs cells slots Q (F0 m (pc + 1) ls (.int (f k) :: rest))) : W p l e R s m args below meth c H locs cells slots Q (F0 m pc ls (.int (nI k) :: .ref x :: rest)) := by
  obtain ⟨hx, hb, hml, hown, hts, hK⟩ := C0
  refine va_iald hx hb hK.1 hP q0 t0 ha ht (vp_in_nI hk hN) hdg ?_
  rw [nI_clamp (Nat.lt_trans hk hN)]
  exact kk
theorem ald_z {f : Nat → Int32} (C0 : cX p m c cc nL s args own g cl tys) (hP : va_P g cl w H) (q0 t0 : Nat) (ha : w[q0]? = some (x, .inl (cA, N, .inl f))) (ht : tys[t0]? = some (cA, .boolean)) (hk : k < N) (hN : N < 2 ^ 31) (hdg : decode cc pc = .ok (.baload, 1))
    (kk : W p l e R s m args below meth c H locs cells slots Q (F0 m (pc + 1) ls (.int (f k) :: rest))) : W p l e R s m args below meth c H locs cells slots Q (F0 m pc ls (.int (nI k) :: .ref x :: rest)) := by
  obtain ⟨hx, hb, hml, hown, hts, hK⟩ := C0
  refine va_zald hx hb hK.1 hP q0 t0 ha ht (vp_in_nI hk hN) hdg ?_
  rw [nI_clamp (Nat.lt_trans hk hN)]
  exact kk
theorem ald_l {f : Nat → Int64} (C0 : cX p m c cc nL s args own g cl tys) (hP : va_P g cl w H) (q0 t0 : Nat) (ha : w[q0]? = some (x, .inl (cA, N, .inr (.inl f)))) (ht : tys[t0]? = some (cA, .long)) (hk : k < N) (hN : N < 2 ^ 31) (hdg : decode cc pc = .ok (.laload, 1))
    (kk : W p l e R s m args below meth c H locs cells slots Q (F0 m (pc + 1) ls (.long (f k) :: rest))) : W p l e R s m args below meth c H locs cells slots Q (F0 m pc ls (.int (nI k) :: .ref x :: rest)) := by
  obtain ⟨hx, hb, hml, hown, hts, hK⟩ := C0
  refine va_lald hx hb hK.1 hP q0 t0 ha ht (vp_in_nI hk hN) hdg ?_
  rw [nI_clamp (Nat.lt_trans hk hN)]
  exact kk
theorem ald_q {C : String} {f : Nat → Option Nat} (C0 : cX p m c cc nL s args own g cl tys) (hP : va_P g cl w H) (q0 t0 : Nat) (ha : w[q0]? = some (x, .inl (cA, N, .inr (.inr (.inr (.inr f)))))) (ht : tys[t0]? = some (cA, .object C)) (hk : k < N) (hN : N < 2 ^ 31) (hdg : decode cc pc = .ok (.aaload, 1))
    (kk : W p l e R s m args below meth c H locs cells slots Q (F0 m (pc + 1) ls (va_rf (f k) :: rest))) : W p l e R s m args below meth c H locs cells slots Q (F0 m pc ls (.int (nI k) :: .ref x :: rest)) := by
  obtain ⟨hx, hb, hml, hown, hts, hK⟩ := C0
  refine va_aldq hx hb hK.1 hP q0 t0 ha ht (vp_in_nI hk hN) hdg ?_
  rw [nI_clamp (Nat.lt_trans hk hN)]
  exact kk
theorem alen {a0 : vp_A} {ty : FieldType} {n : Nat} (C0 : cX p m c cc nL s args own g cl tys) (hP : va_P g cl w H) (q0 t0 : Nat) (ha : w[q0]? = some (x, .inl (cA, a0))) (ht : tys[t0]? = some (cA, ty)) (hn : a0.1 = n) (hdg : decode cc pc = .ok (.arraylength, 1))
    (kk : W p l e R s m args below meth c H locs cells slots Q (F0 m (pc + 1) ls (.int (nI n) :: rest))) : W p l e R s m args below meth c H locs cells slots Q (F0 m pc ls (.ref x :: rest)) := by
  obtain ⟨hx, hb, hml, hown, hts, hK⟩ := C0
  subst hn
  exact va_alen hx hb hK.1 hP q0 t0 ha ht rfl hdg kk
theorem ast_i {f f' : Nat → Int32} {v : Int32} (C0 : cX p m c cc nL s args own g cl tys) (hB : wB g cl A H0 w H locs) (q0 t0 : Nat) (ha : w[q0]? = some (x, .inl (cA, N, .inl f))) (ht : tys[t0]? = some (cA, .int)) (hk : k < N) (hN : N < 2 ^ 31) (hf : upd f k v = f') (hw : w.set q0 (x, .inl (cA, N, .inl f')) = w') (hdg : decode cc pc = .ok (.iastore, 1))
    (kk : ∀ (H1 : Heap) (locs1 : List Loc), wB g cl A H0 w' H1 locs1 → W p l e R s m args below meth c H1 locs1 cells slots Q (F0 m (pc + 1) ls rest)) : W p l e R s m args below meth c H locs cells slots Q (F0 m pc ls (.int v :: .int (nI k) :: .ref x :: rest)) := by
  obtain ⟨hx, hb, hml, hown, hts, hK⟩ := C0
  obtain ⟨hP, hD, hS, hA⟩ := hB
  subst hf
  subst hw
  refine va_iast hx hb hK.1 hP hD hS q0 t0 ha ht (vp_in_nI hk hN) hdg (fun H1 locs1 hP1 hD1 hS1 => ?_)
  rw [nI_clamp (Nat.lt_trans hk hN)] at hP1 hD1
  exact kk H1 locs1 ⟨hP1, hD1, hS1, hA⟩
theorem ast_z {f f' : Nat → Int32} {b : Bool} (C0 : cX p m c cc nL s args own g cl tys) (hB : wB g cl A H0 w H locs) (q0 t0 : Nat) (ha : w[q0]? = some (x, .inl (cA, N, .inl f))) (ht : tys[t0]? = some (cA, .boolean)) (hk : k < N) (hN : N < 2 ^ 31) (hf : upd f k (bI b) = f') (hw : w.set q0 (x, .inl (cA, N, .inl f')) = w') (hdg : decode cc pc = .ok (.bastore, 1))
    (kk : ∀ (H1 : Heap) (locs1 : List Loc), wB g cl A H0 w' H1 locs1 → W p l e R s m args below meth c H1 locs1 cells slots Q (F0 m (pc + 1) ls rest)) : W p l e R s m args below meth c H locs cells slots Q (F0 m pc ls (.int (bI b) :: .int (nI k) :: .ref x :: rest)) := by
  obtain ⟨hx, hb, hml, hown, hts, hK⟩ := C0
  obtain ⟨hP, hD, hS, hA⟩ := hB
  subst hf
  subst hw
  refine va_zast hx hb hK.1 hP hD hS q0 t0 ha ht (vp_in_nI hk hN) hdg (fun H1 locs1 hP1 hD1 hS1 => ?_)
  rw [nI_clamp (Nat.lt_trans hk hN), bI_vp] at hP1 hD1
  exact kk H1 locs1 ⟨hP1, hD1, hS1, hA⟩
theorem ast_l {f f' : Nat → Int64} {v : Int64} (C0 : cX p m c cc nL s args own g cl tys) (hB : wB g cl A H0 w H locs) (q0 t0 : Nat) (ha : w[q0]? = some (x, .inl (cA, N, .inr (.inl f)))) (ht : tys[t0]? = some (cA, .long)) (hk : k < N) (hN : N < 2 ^ 31) (hf : vp_updL f k v = f') (hw : w.set q0 (x, .inl (cA, N, .inr (.inl f'))) = w') (hdg : decode cc pc = .ok (.lastore, 1))
    (kk : ∀ (H1 : Heap) (locs1 : List Loc), wB g cl A H0 w' H1 locs1 → W p l e R s m args below meth c H1 locs1 cells slots Q (F0 m (pc + 1) ls rest)) : W p l e R s m args below meth c H locs cells slots Q (F0 m pc ls (.long v :: .int (nI k) :: .ref x :: rest)) := by
  obtain ⟨hx, hb, hml, hown, hts, hK⟩ := C0
  obtain ⟨hP, hD, hS, hA⟩ := hB
  subst hf
  subst hw
  refine va_last hx hb hK.1 hP hD hS q0 t0 ha ht (vp_in_nI hk hN) hdg (fun H1 locs1 hP1 hD1 hS1 => ?_)
  rw [nI_clamp (Nat.lt_trans hk hN)] at hP1 hD1
  exact kk H1 locs1 ⟨hP1, hD1, hS1, hA⟩
theorem ast_q {f f' : Nat → Option Nat} {r : vw_C} {v ci qk : Nat} {vs : List Value} (C0 : cX p m c cc nL s args own g cl tys) (hB : wB g cl A H0 w H locs) (q0 t0 : Nat) (ha : w[q0]? = some (x, .inl (cA, N, .inr (.inr (.inr (.inr f)))))) (ht : tys[t0]? = some (cA, .object r.1)) (hv : w[qk]? = some (v, .inr (ci, vs))) (hc : cl[ci]? = some r) (hk : k < N) (hN : N < 2 ^ 31) (hf : va_up f k (some v) = f') (hw : w.set q0 (x, .inl (cA, N, .inr (.inr (.inr (.inr f'))))) = w') (hdg : decode cc pc = .ok (.aastore, 1))
    (kk : ∀ (H1 : Heap) (locs1 : List Loc), wB g cl A H0 w' H1 locs1 → W p l e R s m args below meth c H1 locs1 cells slots Q (F0 m (pc + 1) ls rest)) : W p l e R s m args below meth c H locs cells slots Q (F0 m pc ls (.ref v :: .int (nI k) :: .ref x :: rest)) := by
  obtain ⟨hx, hb, hml, hown, hts, hK⟩ := C0
  obtain ⟨hP, hD, hS, hA⟩ := hB
  subst hf
  subst hw
  refine va_astq hx hb hK.1 hP hD hS q0 t0 qk ci ha ht hv hc (vp_in_nI hk hN) hdg (fun H1 locs1 hP1 hD1 hS1 => ?_)
  rw [nI_clamp (Nat.lt_trans hk hN)] at hP1 hD1
  exact kk H1 locs1 ⟨hP1, hD1, hS1, hA⟩
/-- newarray: the new cell is the world's last; its array class is the one that the tables know -/
theorem anw {atype : ArrayType} {ty : FieldType} {a0 : vp_A} {n : Nat} (C0 : cX p m c cc nL s args own g cl tys) (hB : wB g cl A H0 w H locs) (t0 : Nat) (ht : tys[t0]? = some (cA, ty)) (hty : newarray.typeOf atype = ty) (hprim : ∀ C, ty ≠ .object C) (harr : Cond.arrayClass (newarray.typeOf atype) ∈ gT) (ha : ∀ cA : ClassId, vp_cell cA a0 = arrV cA n (fun _ => defaultValue ty)) (hn : n < 2 ^ 20) (hby : n * componentBytes ty ≤ 536870912) (hcells : cells + 1 ≤ R.cells) (hslots : slots + n ≤ R.slots) (hdg : decode cc pc = .ok (.newarray atype, 2))
    (kk : ∀ (q : Nat) (H1 : Heap), wB g cl A H0 (w ++ [(q, .inl (cA, a0))]) H1 locs → W p l e R s m args below meth c H1 locs (cells + 1) (slots + n) Q (F0 m (pc + 2) ls (.ref q :: rest))) : W p l e R s m args below meth c H locs cells slots Q (F0 m pc ls (.int (nI n) :: rest)) := by
  obtain ⟨hx, hb, hml, hown, hts, hK⟩ := C0
  obtain ⟨hP, hD, hS, hA⟩ := hB
  have hn31 : n < 2 ^ 31 := Nat.lt_trans hn (by decide)
  refine va_newa hx hb (hts _ harr) hty hK.1 hP hD hS hA ha (nI_pos hn31) (nI_clamp hn31) hby hcells hslots hdg (fun q cB H1 hK1 hP1 hD1 hS1 => ?_)
  have e : cB = cA := by
    have h1 := (hK1.2 tys.length (cB, ty) (by simp)).2
    have h2 := (hK.1.2 t0 (cA, ty) ht).2
    subst hty
    cases atype <;> exact Option.some.inj (h1.symm.trans h2)
  subst e
  exact kk q H1 ⟨hP1, hD1, hS1, hA⟩
end ROWS

/-! rows of ints and longs that agree; the JDK's own methods; a way's own methods -/
theorem app_get {w : va_W} {c : Nat × va_E} : (w ++ [c])[w.length]? = some c := by simp
theorem app_set {w : va_W} {c c' : Nat × va_E} : (w ++ [c]).set w.length c' = w ++ [c'] := by
  apply List.ext_getElem?
  intro j
  by_cases h : j = w.length
  · subst h
    rw [List.getElem?_set_self (by simp)]
    simp
  · rw [List.getElem?_set_ne (Ne.symm h)]
    by_cases h2 : j < w.length
    · rw [List.getElem?_append_left h2, List.getElem?_append_left h2]
    · rw [List.getElem?_eq_none (by simp; omega), List.getElem?_eq_none (by simp; omega)]
theorem app_low {w w' : va_W} {q : Nat} {c : Nat × va_E} (h : w[q]? = some c) : (w ++ w')[q]? = some c := by
  rw [List.getElem?_append_left (List.getElem?_eq_some_iff.mp h).1]
  exact h
theorem arrV_ext {cA : ClassId} {n : Nat} {f f' : Nat → Value} (h : ∀ j, j < n → f j = f' j) : arrV cA n f = arrV cA n f' := by
  unfold arrV
  congr 1
  apply Array.ext
  · simp
  · intro i h1 h2
    simp only [Array.getElem_ofFn]
    exact h i (by simpa using h1)
theorem wB.exti {g : va_G} {cl : List vw_C} {A : Nat → Prop} {H0 : Heap} {w w' : va_W} {H : Heap} {locs : List Loc} {q0 x N : Nat} {cA : ClassId} {f f' : Nat → Int32} (hB : wB g cl A H0 w H locs) (h : w[q0]? = some (x, .inl (cA, N, .inl f))) (hf : ∀ j, j < N → f j = f' j) (hw : w.set q0 (x, .inl (cA, N, .inl f')) = w') : wB g cl A H0 w' H locs := by
  subst hw
  obtain ⟨hP, hD, hS, hA⟩ := hB
  refine ⟨hP.set hD h ?_ (fun _ _ => rfl), hD.set h, hS, hA⟩
  have h1 : H[x]? = some (vp_cell cA (N, .inl f)) := hP q0 _ h
  show H[x]? = some (vp_cell cA (N, .inl f'))
  rw [h1]
  congr 1
  show arrV cA N (fun j => .int (f j)) = arrV cA N (fun j => .int (f' j))
  exact arrV_ext (fun j hj => by rw [hf j hj])
theorem wB.extl {g : va_G} {cl : List vw_C} {A : Nat → Prop} {H0 : Heap} {w w' : va_W} {H : Heap} {locs : List Loc} {q0 x N : Nat} {cA : ClassId} {f f' : Nat → Int64} (hB : wB g cl A H0 w H locs) (h : w[q0]? = some (x, .inl (cA, N, .inr (.inl f)))) (hf : ∀ j, j < N → f j = f' j) (hw : w.set q0 (x, .inl (cA, N, .inr (.inl f'))) = w') : wB g cl A H0 w' H locs := by
  subst hw
  obtain ⟨hP, hD, hS, hA⟩ := hB
  refine ⟨hP.set hD h ?_ (fun _ _ => rfl), hD.set h, hS, hA⟩
  have h1 : H[x]? = some (vp_cell cA (N, .inr (.inl f))) := hP q0 _ h
  show H[x]? = some (vp_cell cA (N, .inr (.inl f')))
  rw [h1]
  congr 1
  show arrV cA N (fun j => .long (f j)) = arrV cA N (fun j => .long (f' j))
  exact arrV_ext (fun j hj => by rw [hf j hj])
theorem k_AR_316 : Cond.methodLink R_AR 316 ⟨"[I", "clone", "()Ljava/lang/Object;"⟩ ∈ gT := gT_in (List.mem_of_getElem? (i := 271) (by decide +kernel)) (by decide +kernel)
theorem k_cl_1 : Cond.sameMethod "[I" "java/lang/Object" "clone" "()Ljava/lang/Object;" ∈ gT := gT_in (List.mem_of_getElem? (i := 272) (by decide +kernel)) (by decide +kernel)
theorem k_cl_2 : Cond.native ⟨"java/lang/Object", "clone", "()Ljava/lang/Object;"⟩ ∈ gT := gT_in (List.mem_of_getElem? (i := 273) (by decide +kernel)) (by decide +kernel)
theorem k_cl_3 : Cond.instanceMethod ⟨"java/lang/Object", "clone", "()Ljava/lang/Object;"⟩ ∈ gT := gT_in (List.mem_of_getElem? (i := 274) (by decide +kernel)) (by decide +kernel)
theorem k_cl_4 : Cond.selects "[I" ⟨"[I", "clone", "()Ljava/lang/Object;"⟩ ⟨"java/lang/Object", "clone", "()Ljava/lang/Object;"⟩ ∈ gT := gT_in (List.mem_of_getElem? (i := 275) (by decide +kernel)) (by decide +kernel)
theorem k_AR_317 : Cond.classLink R_AR 317 "[I" ∈ gT := gT_in (List.mem_of_getElem? (i := 277) (by decide +kernel)) (by decide +kernel)
theorem k_AR_150 : Cond.methodLink R_AR 150 arraycopyName ∈ gT := gT_in (List.mem_of_getElem? (i := 281) (by decide +kernel)) (by decide +kernel)
theorem k_ac_1 : Cond.native arraycopyName ∈ gT := gT_in (List.mem_of_getElem? (i := 283) (by decide +kernel)) (by decide +kernel)
theorem k_ac_2 : Cond.static arraycopyName ∈ gT := gT_in (List.mem_of_getElem? (i := 282) (by decide +kernel)) (by decide +kernel)
theorem k_mm_1 : Cond.methodLink R_AR 304 Lib.Math.min.name ∈ gT := gT_in (List.mem_of_getElem? (i := 278) (by decide +kernel)) (by decide +kernel)
theorem k_mm_2 : Cond.static Lib.Math.min.name ∈ gT := gT_in (List.mem_of_getElem? (i := 279) (by decide +kernel)) (by decide +kernel)
theorem k_mm_3 : Cond.code Lib.Math.min.name Lib.Math.min.code 2 (some .int) ∈ gT := gT_in (List.mem_of_getElem? (i := 280) (by decide +kernel)) (by decide +kernel)
section JDK
variable {l : Launch} {g : va_G} {t : Nat → ClassId} {w : va_W}
set_option maxHeartbeats 4000000 in
set_option maxRecDepth 100000 in
theorem c_AR_copyOf (q0 x N k : Nat) (f f' : Nat → Int32) (hq : w[q0]? = some (x, .inl (t 0, N, .inl f))) (hN : N < 2 ^ 20) (hk : k ≤ N) (hf : ∀ j, j < k → f j = f' j) : Mt l y_AR_copyOf w_AR_copyOf ({ frames := 1, cells := 1, slots := k, locals := 60 }) g classes (tyL t) [.ref x, .int (nI k)] w (S := Nat) (fun v q => v = some (.ref q)) (fun q => w ++ [(q, .inl (t 0, k, .inl f'))]) 1 k := by
  refine Mt.of (cc := b_AR_copyOf) (maxL := 3) (ret := (some (.array .int))) (own := R_AR) (by decide) rfl rfl (Nat.le_of_ble_eq_true rfl) ?_
  intro p e s m args below meth c C0 hr hlk hin A hA hB ls hl
  have hl : lv_has ls 3 [(0, .ref x), (1, .int (nI k))] := hl
  have hnm : s.vm.findClass "[I" = some (t 0) := (C0.2.2.2.2.2.1.2 0 (t 0, .int) rfl).2
  refine lv_iload_n C0.1 C0.2.1 d_AR_copyOf_0 rfl (lv_at hl 1 rfl) ?_
  refine lv_aload_n C0.1 C0.2.1 d_AR_copyOf_1 rfl (lv_at hl 0 rfl) ?_
  refine alen (n := N) C0 hB.1 q0 0 hq rfl rfl d_AR_copyOf_2 ?_
  refine lv_icmp_ne (tgt := 14) C0.1 C0.2.1 d_AR_copyOf_3 (by decide) (fun c_3 => ?_) (fun c_3 => ?_)
  · have hlt : k < N := by
      rcases Nat.lt_or_ge k N with h | h
      · exact h
      · exact absurd (by rw [show k = N by omega]) c_3
    refine lv_iload_n C0.1 C0.2.1 d_AR_copyOf_14 rfl (lv_at hl 1 rfl) ?_
    refine anw (atype := .int) (a0 := (k, .inl (fun _ => 0))) C0 hB 0 rfl rfl (fun _ h => by cases h) k_arr_int (fun _ => rfl) (by omega) (by show k * 4 ≤ _; omega) (Nat.le_of_ble_eq_true rfl) (by show 0 + k ≤ k; omega) d_AR_copyOf_15 (fun q H hB => ?_)
    refine W.widen (k := 1) (n := k) (by omega) (by omega) ?_
    refine lv_astore_n (lv' := [(2, .ref q), (0, .ref x), (1, .int (nI k))]) C0.1 C0.2.1 d_AR_copyOf_17 rfl hl (by decide) rfl (fun ls hl => ?_)
    refine lv_aload_n C0.1 C0.2.1 d_AR_copyOf_18 rfl (lv_at hl 1 rfl) ?_
    refine lv_iconst (v := nI 0) C0.1 C0.2.1 d_AR_copyOf_19 (by decide) ?_
    refine lv_aload_n C0.1 C0.2.1 d_AR_copyOf_20 rfl (lv_at hl 0 rfl) ?_
    refine lv_iconst (v := nI 0) C0.1 C0.2.1 d_AR_copyOf_21 (by decide) ?_
    refine lv_aload_n C0.1 C0.2.1 d_AR_copyOf_22 rfl (lv_at hl 1 rfl) ?_
    refine alen (n := N) C0 hB.1 q0 0 (app_low hq) rfl rfl d_AR_copyOf_23 ?_
    refine lv_iload_n C0.1 C0.2.1 d_AR_copyOf_24 rfl (lv_at hl 2 rfl) ?_
    refine va_mmin (own := R_AR) C0.1 C0.2.1 (by rw [C0.2.2.1]; exact hl.1.symm) C0.2.2.2.1 (C0.2.2.2.2.1 _ k_mm_1) (C0.2.2.2.2.1 _ k_mm_2) (C0.2.2.2.2.1 _ k_ini_MA) (C0.2.2.2.2.1 _ k_mm_3) (Nat.le_of_ble_eq_true rfl) (Nat.le_of_ble_eq_true rfl) (Nat.le_refl _) (Nat.le_refl _) d_AR_copyOf_25 ?_
    refine ti (show (if nI k < nI N then nI k else nI N) = nI k from if_pos (nI_lt hlt (by omega))) ?_
    refine W.eq (g2 := F0 m 28 ls [.int (nI k), .int (nI 0), .ref q, .int (nI 0), .ref x]) rfl ?_
    have e0 : (nI 0).toNatClampNeg = 0 := nI_clamp (by decide)
    have ek : (nI k).toNatClampNeg = k := nI_clamp (by omega)
    refine va_copyi (own := R_AR) (ty := .int) C0.1 C0.2.1 (by rw [C0.2.2.1]; exact hl.1.symm) C0.2.2.2.1 (C0.2.2.2.2.1 _ k_AR_150) (C0.2.2.2.2.1 _ k_ac_1) (C0.2.2.2.2.1 _ k_ac_2) (C0.2.2.2.2.1 _ k_ini_SY) C0.2.2.2.2.2.1 hB.1 hB.2.1 hB.2.2.1 q0 w.length 0 0 (app_low hq) app_get rfl rfl rfl (nI_pos (by decide)) (nI_pos (by decide)) (nI_pos (by omega)) (by rw [e0, ek]; omega) (by rw [e0, ek]; omega) (fun _ _ => rfl) (Nat.le_of_ble_eq_true rfl) (Nat.le_of_ble_eq_true rfl) d_AR_copyOf_28 (fun H locs hP hD hS => ?_)
    rw [app_set, e0, ek] at hP hD
    have hB : wB g classes A s.heap (w ++ [(q, .inl (t 0, k, .inl f'))]) H locs := by
      refine wB.exti (q0 := w.length) (f := va_cpy f (fun _ => 0) 0 0 k) ⟨hP, hD, hS, hB.2.2.2⟩ app_get (fun j hj => ?_) app_set
      rw [sb_cpy0 hj]
      exact hf j hj
    refine lv_aload_n C0.1 C0.2.1 d_AR_copyOf_31 rfl (lv_at hl 0 rfl) ?_
    exact eM_a C0 hr (Or.inr ⟨_, rfl⟩) hlk q (Or.inr ⟨_, rfl⟩) hB rfl (Nat.le_refl _) (Nat.le_refl _) d_AR_copyOf_32
  · have hke : k = N := (nI_eq (by omega) (by omega)).mp c_3
    subst hke
    refine lv_aload_n C0.1 C0.2.1 d_AR_copyOf_6 rfl (lv_at hl 0 rfl) ?_
    refine va_clone (own := R_AR) (ad := "[I") C0.1 C0.2.1 (by rw [C0.2.2.1]; exact hl.1.symm) C0.2.2.2.1 (C0.2.2.2.2.1 _ k_AR_316) (C0.2.2.2.2.1 _ k_cl_1) (C0.2.2.2.2.1 _ k_cl_2) (C0.2.2.2.2.1 _ k_cl_3) (C0.2.2.2.2.1 _ k_cl_4) C0.2.2.2.2.2.2 C0.2.2.2.2.2.1 hB.1 hB.2.1 hB.2.2.1 hB.2.2.2 q0 0 hq rfl hnm (fun i v hv => ?_) (Nat.le_of_ble_eq_true rfl) (Nat.le_of_ble_eq_true rfl) (Nat.le_of_ble_eq_true rfl) (by show 0 + k ≤ k; omega) d_AR_copyOf_7 (fun q H hK1 hP hD hS => ?_)
    · have h1 : (arrV (t 0) k (fun j => .int (f j))).slots[i]? = some v := hv
      have h2 := (Array.getElem?_eq_some_iff.mp h1).2
      rw [← h2]
      simp only [arrV, Array.getElem_ofFn]
      rfl
    · have hB : wB g classes A s.heap (w ++ [(q, .inl (t 0, k, .inl f'))]) H [] := wB.exti (q0 := w.length) (f := f) ⟨hP, hD, hS, hB.2.2.2⟩ app_get hf app_set
      refine va_castA (own := R_AR) C0.1 C0.2.1 C0.2.2.2.1 (C0.2.2.2.2.1 _ k_AR_317) hB.1 w.length app_get hnm d_AR_copyOf_10 ?_
      exact eM_a C0 hr (Or.inr ⟨_, rfl⟩) hlk q (Or.inr ⟨_, rfl⟩) hB rfl (Nat.le_refl _) (by show 0 + k ≤ k; omega) d_AR_copyOf_13
end JDK

section WAYS
variable {l : Launch} {w : va_W} {g : va_G} {t : Nat → ClassId} {a : Nat → Nat} {n : Nat} {kd : Nat → Nat} {em : Nat → Bool} {br : Nat → Bool} {ii : Nat → Int32} {oo : Nat → Int32} {np : Nat} {ea : Nat → Nat} {eb : Nat → Nat} {li : Nat → Nat} {rn : Nat → Bool} {wa : Nat → Option Nat} {wn : Nat} {sT : Nat → Bool} {sP : Nat → Bool} {ak : Nat} {ap : Nat → Nat} {af : Nat → Nat} {tt : Nat → Nat} {ac : Nat → Nat} {ct : Nat → Nat} {rp : Nat → Nat} {rt : Nat → Nat} {rest : va_W} {L : List Wy}
set_option maxHeartbeats 4000000 in
set_option maxRecDepth 100000 in
theorem c_FW_init (b0 : Nat) (x y : Int32) (z : Int64) (pa ta : Nat) : Mt l y_FW_init w_FW_init ({ frames := 1, cells := 0, slots := 0, locals := 12 }) g classes (tyL t) [.ref b0, .int x, .int y, .long z, .ref pa, .ref ta] (w ++ [(b0, .inr (4, [.int 0, .int 0, .long 0, .null, .null]))]) (S := Unit) (fun v _ => v = none) (fun _ => (w ++ [(b0, .inr (4, [.int x, .int y, .long z, .ref pa, .ref ta]))])) 0 0 := by
  refine Mt.of (cc := b_FW_init) (maxL := 7) (ret := none) (own := R_FW) (by decide) rfl rfl (Nat.le_of_ble_eq_true rfl) ?_
  intro p e s m args below meth c C0 hr hlk hin A hA hB ls hl
  have hl : lv_has ls 7 [(0, .ref b0), (1, .int x), (2, .int y), (3, .long z), (5, .ref pa), (6, .ref ta)] := hl
  refine lv_aload_n C0.1 C0.2.1 d_FW_init_0 rfl (lv_at hl 0 rfl) ?_
  refine oi C0 k_FW_3 hl.1 (Nat.le_of_ble_eq_true rfl) (Nat.le_of_ble_eq_true rfl) d_FW_init_1 ?_
  refine lv_aload_n C0.1 C0.2.1 d_FW_init_4 rfl (lv_at hl 0 rfl) ?_
  refine lv_iload_n C0.1 C0.2.1 d_FW_init_5 rfl (lv_at hl 1 rfl) ?_
  refine pf_FW_9 (w' := (w ++ [(b0, .inr (4, [.int x, .int 0, .long 0, .null, .null]))])) C0 hin hB w.length app_get (Nat.le_of_ble_eq_true rfl) rfl rfl app_set d_FW_init_6 (fun H locs hB => ?_)
  refine lv_aload_n C0.1 C0.2.1 d_FW_init_9 rfl (lv_at hl 0 rfl) ?_
  refine lv_iload_n C0.1 C0.2.1 d_FW_init_10 rfl (lv_at hl 2 rfl) ?_
  refine pf_FW_15 (w' := (w ++ [(b0, .inr (4, [.int x, .int y, .long 0, .null, .null]))])) C0 hin hB w.length app_get (Nat.le_of_ble_eq_true rfl) rfl rfl app_set d_FW_init_11 (fun H locs hB => ?_)
  refine lv_aload_n C0.1 C0.2.1 d_FW_init_14 rfl (lv_at hl 0 rfl) ?_
  refine lv_lload_n C0.1 C0.2.1 d_FW_init_15 rfl (lv_at hl 3 rfl) ?_
  refine pf_FW_18 (w' := (w ++ [(b0, .inr (4, [.int x, .int y, .long z, .null, .null]))])) C0 hin hB w.length app_get (Nat.le_of_ble_eq_true rfl) rfl rfl app_set d_FW_init_16 (fun H locs hB => ?_)
  refine lv_aload_n C0.1 C0.2.1 d_FW_init_19 rfl (lv_at hl 0 rfl) ?_
  refine lv_aload C0.1 C0.2.1 d_FW_init_20 (lv_at hl 4 rfl) ?_
  refine pf_FW_22 (w' := (w ++ [(b0, .inr (4, [.int x, .int y, .long z, .ref pa, .null]))])) C0 hin hB w.length app_get (Nat.le_of_ble_eq_true rfl) rfl rfl app_set d_FW_init_22 (fun H locs hB => ?_)
  refine lv_aload_n C0.1 C0.2.1 d_FW_init_25 rfl (lv_at hl 0 rfl) ?_
  refine lv_aload C0.1 C0.2.1 d_FW_init_26 (lv_at hl 5 rfl) ?_
  refine pf_FW_26 (w' := (w ++ [(b0, .inr (4, [.int x, .int y, .long z, .ref pa, .ref ta]))])) C0 hin hB w.length app_get (Nat.le_of_ble_eq_true rfl) rfl rfl app_set d_FW_init_28 (fun H locs hB => ?_)
  exact eM_v C0 hr hlk () hB (rfl) (Nat.le_refl _) (Nat.le_refl _) d_FW_init_31
def pAt (N : Nat) (F : Nat → Int32) (x : Int32) : Int32 := if hasB N x = true then F x.toNatClampNeg else -1
theorem pAt_n {N : Nat} {F : Nat → Int32} {x : Int32} (h : hasB N x = false) : pAt N F x = -1 := by
  unfold pAt; rw [h]; rfl
theorem pAt_j {N j : Nat} {F : Nat → Int32} (hj : j < N) (hN : N < 2 ^ 31) : pAt N F (nI j) = F j := by
  unfold pAt; rw [hasB_nI (by omega), decide_eq_true hj, nI_clamp (by omega)]; rfl
set_option maxHeartbeats 4000000 in
set_option maxRecDepth 100000 in
theorem c_FW_pipeAt (q0 q1 o0 pa ta N : Nat) (F : Nat → Int32) (x y : Int32) (z : Int64) (k : Int32) (hq : w[q0]? = some (o0, .inr (4, [.int x, .int y, .long z, .ref pa, .ref ta]))) (hq1 : w[q1]? = some (pa, .inl (t 0, N, .inl F))) (hN : N < 2 ^ 20) : Rd l y_FW_pipeAt w_FW_pipeAt ({ frames := 0, cells := 0, slots := 0, locals := 0 }) g classes (tyL t) [.ref o0, .int k] w (some (.int (pAt N F k))) := by
  refine Rd.of (cc := b_FW_pipeAt) (maxL := 2) (ret := (some .int)) (own := R_FW) (by decide) rfl rfl (Nat.le_of_ble_eq_true rfl) ?_
  intro p e s m args below meth c C0 hr hlk hP ls hl
  have hl : lv_has ls 2 [(0, .ref o0), (1, .int k)] := hl
  refine lv_iload_n C0.1 C0.2.1 d_FW_pipeAt_0 rfl (lv_at hl 1 rfl) ?_
  refine lv_if_lt (tgt := 22) C0.1 C0.2.1 d_FW_pipeAt_1 (by decide) (fun c_1 => ?_) (fun c_1 => ?_)
  · refine lv_iconst (v := -1) C0.1 C0.2.1 d_FW_pipeAt_22 (by decide) ?_
    exact eR_i C0 hr hlk (by rw [pAt_n (hasB_neg c_1)]) d_FW_pipeAt_23
  · refine lv_iload_n C0.1 C0.2.1 d_FW_pipeAt_4 rfl (lv_at hl 1 rfl) ?_
    refine lv_aload_n C0.1 C0.2.1 d_FW_pipeAt_5 rfl (lv_at hl 0 rfl) ?_
    refine gf_FW_22 C0 hP q0 hq rfl d_FW_pipeAt_6 ?_
    refine alen (n := N) C0 hP q1 0 hq1 rfl rfl d_FW_pipeAt_9 ?_
    refine lv_icmp_ge (tgt := 22) C0.1 C0.2.1 d_FW_pipeAt_10 (by decide) (fun c_10 => ?_) (fun c_10 => ?_)
    · refine lv_iconst (v := -1) C0.1 C0.2.1 d_FW_pipeAt_22 (by decide) ?_
      exact eR_i C0 hr hlk (by rw [pAt_n (hasB_ge (by omega) c_10)]) d_FW_pipeAt_23
    · obtain ⟨j, hj, rfl⟩ : ∃ j : Nat, j < N ∧ k = nI j := hasB_ex (by omega) (hasB_t (by omega) c_1 c_10)
      refine lv_aload_n C0.1 C0.2.1 d_FW_pipeAt_13 rfl (lv_at hl 0 rfl) ?_
      refine gf_FW_22 C0 hP q0 hq rfl d_FW_pipeAt_14 ?_
      refine lv_iload_n C0.1 C0.2.1 d_FW_pipeAt_17 rfl (lv_at hl 1 rfl) ?_
      refine ald_i (N := N) C0 hP q1 0 hq1 rfl (by omega) (by omega) d_FW_pipeAt_18 ?_
      refine lv_goto (tgt := 23) C0.1 C0.2.1 d_FW_pipeAt_19 (by decide) ?_
      exact eR_i C0 hr hlk (by rw [pAt_j hj (by omega)]) d_FW_pipeAt_23
set_option maxHeartbeats 4000000 in
set_option maxRecDepth 100000 in
theorem c_FW_thingAt (q0 q1 o0 pa ta N : Nat) (F : Nat → Int32) (x y : Int32) (z : Int64) (k : Int32) (hq : w[q0]? = some (o0, .inr (4, [.int x, .int y, .long z, .ref pa, .ref ta]))) (hq1 : w[q1]? = some (ta, .inl (t 0, N, .inl F))) (hN : N < 2 ^ 20) : Rd l y_FW_thingAt w_FW_thingAt ({ frames := 0, cells := 0, slots := 0, locals := 0 }) g classes (tyL t) [.ref o0, .int k] w (some (.int (pAt N F k))) := by
  refine Rd.of (cc := b_FW_thingAt) (maxL := 2) (ret := (some .int)) (own := R_FW) (by decide) rfl rfl (Nat.le_of_ble_eq_true rfl) ?_
  intro p e s m args below meth c C0 hr hlk hP ls hl
  have hl : lv_has ls 2 [(0, .ref o0), (1, .int k)] := hl
  refine lv_iload_n C0.1 C0.2.1 d_FW_thingAt_0 rfl (lv_at hl 1 rfl) ?_
  refine lv_if_lt (tgt := 22) C0.1 C0.2.1 d_FW_thingAt_1 (by decide) (fun c_1 => ?_) (fun c_1 => ?_)
  · refine lv_iconst (v := -1) C0.1 C0.2.1 d_FW_thingAt_22 (by decide) ?_
    exact eR_i C0 hr hlk (by rw [pAt_n (hasB_neg c_1)]) d_FW_thingAt_23
  · refine lv_iload_n C0.1 C0.2.1 d_FW_thingAt_4 rfl (lv_at hl 1 rfl) ?_
    refine lv_aload_n C0.1 C0.2.1 d_FW_thingAt_5 rfl (lv_at hl 0 rfl) ?_
    refine gf_FW_26 C0 hP q0 hq rfl d_FW_thingAt_6 ?_
    refine alen (n := N) C0 hP q1 0 hq1 rfl rfl d_FW_thingAt_9 ?_
    refine lv_icmp_ge (tgt := 22) C0.1 C0.2.1 d_FW_thingAt_10 (by decide) (fun c_10 => ?_) (fun c_10 => ?_)
    · refine lv_iconst (v := -1) C0.1 C0.2.1 d_FW_thingAt_22 (by decide) ?_
      exact eR_i C0 hr hlk (by rw [pAt_n (hasB_ge (by omega) c_10)]) d_FW_thingAt_23
    · obtain ⟨j, hj, rfl⟩ : ∃ j : Nat, j < N ∧ k = nI j := hasB_ex (by omega) (hasB_t (by omega) c_1 c_10)
      refine lv_aload_n C0.1 C0.2.1 d_FW_thingAt_13 rfl (lv_at hl 0 rfl) ?_
      refine gf_FW_26 C0 hP q0 hq rfl d_FW_thingAt_14 ?_
      refine lv_iload_n C0.1 C0.2.1 d_FW_thingAt_17 rfl (lv_at hl 1 rfl) ?_
      refine ald_i (N := N) C0 hP q1 0 hq1 rfl (by omega) (by omega) d_FW_thingAt_18 ?_
      refine lv_goto (tgt := 23) C0.1 C0.2.1 d_FW_thingAt_19 (by decide) ?_
      exact eR_i C0 hr hlk (by rw [pAt_j hj (by omega)]) d_FW_thingAt_23
end WAYS

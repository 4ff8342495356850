/-! a way at the world's end; where a way's cells lie; new objects -/
theorem wy_push {t : Nat → ClassId} {L : List Wy} {x : Wy} : wy_W t (L ++ [x]) = wy_W t L ++ wy_c t x := by
  unfold wy_W
  rw [List.flatMap_append]
  simp
theorem wy_at {t : Nat → ClassId} : ∀ {L : List Wy} {i : Nat} {x : Wy}, L[i]? = some x → ∀ j, j < 3 → (wy_W t L)[3 * i + j]? = (wy_c t x)[j]?
  | [], i, x, h, j, _ => by simp at h
  | y :: L, 0, x, h, j, hj => by
    have e : y = x := by simpa using h
    subst e
    show (wy_c t y ++ wy_W t L)[3 * 0 + j]? = _
    rw [List.getElem?_append_left (by show 3 * 0 + j < 3; omega)]
    congr 1
    omega
  | y :: L, i + 1, x, h, j, hj => by
    have h1 : L[i]? = some x := by simpa using h
    show (wy_c t y ++ wy_W t L)[3 * (i + 1) + j]? = _
    rw [List.getElem?_append_right (by show 3 ≤ 3 * (i + 1) + j; omega)]
    rw [show 3 * (i + 1) + j - (wy_c t y).length = 3 * i + j from by show 3 * (i + 1) + j - 3 = _; omega]
    exact wy_at h1 j hj

theorem wW_push {a : Nat → Nat} {t : Nat → ClassId} {n : Nat} {kd : Nat → Nat} {em : Nat → Bool} {br : Nat → Bool} {ii : Nat → Int32} {oo : Nat → Int32} {np : Nat} {ea : Nat → Nat} {eb : Nat → Nat} {li : Nat → Nat} {rn : Nat → Bool} {wa : Nat → Option Nat} {wn : Nat} {sT : Nat → Bool} {sP : Nat → Bool} {ak : Nat} {ap : Nat → Nat} {af : Nat → Nat} {tt : Nat → Nat} {ac : Nat → Nat} {ct : Nat → Nat} {rp : Nat → Nat} {rt : Nat → Nat} {rest : va_W} {L : List Wy} {x : Wy} : wW a t n kd em br ii oo np ea eb li rn wa wn sT sP ak ap af tt ac ct rp rt rest (L ++ [x]) = ((wW a t n kd em br ii oo np ea eb li rn wa wn sT sP ak ap af tt ac ct rp rt rest L ++ [(x.1, .inl (t 0, x.2.2.2.2.2.2.1.length, .inl (fun j => nI (x.2.2.2.2.2.2.1.getD j 0))))]) ++ [(x.2.1, .inl (t 0, x.2.2.2.2.2.2.2.length, .inl (fun j => nI (x.2.2.2.2.2.2.2.getD j 0))))]) ++ [(x.2.2.1, .inr (4, [.int (nI x.2.2.2.1), .int (nI x.2.2.2.2.1), .long (lN x.2.2.2.2.2.1), .ref x.1, .ref x.2.1]))] := by
  unfold wW
  rw [wy_push]
  simp only [wy_c, List.append_assoc, List.cons_append, List.nil_append]
theorem wW_w0 {a : Nat → Nat} {t : Nat → ClassId} {n : Nat} {kd : Nat → Nat} {em : Nat → Bool} {br : Nat → Bool} {ii : Nat → Int32} {oo : Nat → Int32} {np : Nat} {ea : Nat → Nat} {eb : Nat → Nat} {li : Nat → Nat} {rn : Nat → Bool} {wa : Nat → Option Nat} {wn : Nat} {sT : Nat → Bool} {sP : Nat → Bool} {ak : Nat} {ap : Nat → Nat} {af : Nat → Nat} {tt : Nat → Nat} {ac : Nat → Nat} {ct : Nat → Nat} {rp : Nat → Nat} {rt : Nat → Nat} {rest : va_W} {L : List Wy} {i : Nat} {x : Wy} (h : L[i]? = some x) : (wW a t n kd em br ii oo np ea eb li rn wa wn sT sP ak ap af tt ac ct rp rt rest L)[23 + (rest.length + (3 * i + 0))]? = (wy_c t x)[0]? := by
  unfold wW
  rw [List.getElem?_append_right (by simp), show 23 + (rest.length + (3 * i + 0)) - _ = rest.length + (3 * i + 0) from by simp, List.getElem?_append_right (by omega), Nat.add_sub_cancel_left]
  exact wy_at h 0 (by decide)
theorem wW_w1 {a : Nat → Nat} {t : Nat → ClassId} {n : Nat} {kd : Nat → Nat} {em : Nat → Bool} {br : Nat → Bool} {ii : Nat → Int32} {oo : Nat → Int32} {np : Nat} {ea : Nat → Nat} {eb : Nat → Nat} {li : Nat → Nat} {rn : Nat → Bool} {wa : Nat → Option Nat} {wn : Nat} {sT : Nat → Bool} {sP : Nat → Bool} {ak : Nat} {ap : Nat → Nat} {af : Nat → Nat} {tt : Nat → Nat} {ac : Nat → Nat} {ct : Nat → Nat} {rp : Nat → Nat} {rt : Nat → Nat} {rest : va_W} {L : List Wy} {i : Nat} {x : Wy} (h : L[i]? = some x) : (wW a t n kd em br ii oo np ea eb li rn wa wn sT sP ak ap af tt ac ct rp rt rest L)[23 + (rest.length + (3 * i + 1))]? = (wy_c t x)[1]? := by
  unfold wW
  rw [List.getElem?_append_right (by simp), show 23 + (rest.length + (3 * i + 1)) - _ = rest.length + (3 * i + 1) from by simp, List.getElem?_append_right (by omega), Nat.add_sub_cancel_left]
  exact wy_at h 1 (by decide)
theorem wW_w2 {a : Nat → Nat} {t : Nat → ClassId} {n : Nat} {kd : Nat → Nat} {em : Nat → Bool} {br : Nat → Bool} {ii : Nat → Int32} {oo : Nat → Int32} {np : Nat} {ea : Nat → Nat} {eb : Nat → Nat} {li : Nat → Nat} {rn : Nat → Bool} {wa : Nat → Option Nat} {wn : Nat} {sT : Nat → Bool} {sP : Nat → Bool} {ak : Nat} {ap : Nat → Nat} {af : Nat → Nat} {tt : Nat → Nat} {ac : Nat → Nat} {ct : Nat → Nat} {rp : Nat → Nat} {rt : Nat → Nat} {rest : va_W} {L : List Wy} {i : Nat} {x : Wy} (h : L[i]? = some x) : (wW a t n kd em br ii oo np ea eb li rn wa wn sT sP ak ap af tt ac ct rp rt rest L)[23 + (rest.length + (3 * i + 2))]? = (wy_c t x)[2]? := by
  unfold wW
  rw [List.getElem?_append_right (by simp), show 23 + (rest.length + (3 * i + 2)) - _ = rest.length + (3 * i + 2) from by simp, List.getElem?_append_right (by omega), Nat.add_sub_cancel_left]
  exact wy_at h 2 (by decide)
section NEWS
variable {p : Program} {l : Launch} {e : Env} {R : Room} {s : State} {m : MethodId} {args : Array Value} {below : List Frame} {meth : Method} {c : Code} {H : Heap} {locs : List Loc} {cells slots : Nat} {Q : State → Prop}
variable {cc : ByteArray} {nL pc : Nat} {ls : Array Slot} {rest : List Value} {g : va_G} {tys : List (ClassId × FieldType)} {A : Nat → Prop} {H0 : Heap} {w w' : va_W} {x : Nat} {fs : List Value} {v : Value} {rm : Room} {mc ms : Nat}
theorem nw_LW_7 (C0 : cX p m c cc nL s args R_LW g classes tys) (hB : wB g classes A H0 w H locs) (hcells : cells + 1 ≤ R.cells) (hslots : slots + 5 ≤ R.slots) (hdg : decode cc pc = .ok (.new 7, 3)) (kk : ∀ (q : Nat) (H1 : Heap), wB g classes A H0 (w ++ [(q, .inr (0, [.null, .null, .null, .null, .int 0]))]) H1 locs → W p l e R s m args below meth c H1 locs (cells + 1) (slots + 5) Q (F0 m (pc + 3) ls (.ref q :: rest))) : W p l e R s m args below meth c H locs cells slots Q (F0 m pc ls rest) :=
  va_new (ci := 0) (fs := [.null, .null, .null, .null, .int 0]) C0.1 C0.2.1 C0.2.2.2.2.1 iw_WS t_WS t_WS_ok C0.2.2.2.1 (C0.2.2.2.2.1 _ k_LW_7) (C0.2.2.2.2.1 _ k_inst_WS) (C0.2.2.2.2.1 _ k_ini_WS) C0.2.2.2.2.2.1 hB.1 hB.2.1 hB.2.2.1 hB.2.2.2 rfl (fun j hj => by rcases (show j = 0 ∨ j = 1 ∨ j = 2 ∨ j = 3 ∨ j = 4 by omega) with rfl | rfl | rfl | rfl | rfl <;> rfl) hcells hslots hdg (fun q H1 hP hD hS => kk q H1 ⟨hP, hD, hS, hB.2.2.2⟩)
theorem nw_WS_7 (C0 : cX p m c cc nL s args R_WS g classes tys) (hB : wB g classes A H0 w H locs) (hcells : cells + 1 ≤ R.cells) (hslots : slots + 12 ≤ R.slots) (hdg : decode cc pc = .ok (.new 7, 3)) (kk : ∀ (q : Nat) (H1 : Heap), wB g classes A H0 (w ++ [(q, .inr (3, [.null, .null, .null, .null, .null, .null, .null, .null, .int 0, .null, .null, .null]))]) H1 locs → W p l e R s m args below meth c H1 locs (cells + 1) (slots + 12) Q (F0 m (pc + 3) ls (.ref q :: rest))) : W p l e R s m args below meth c H locs cells slots Q (F0 m pc ls rest) :=
  va_new (ci := 3) (fs := [.null, .null, .null, .null, .null, .null, .null, .null, .int 0, .null, .null, .null]) C0.1 C0.2.1 C0.2.2.2.2.1 iw_SE t_SE t_SE_ok C0.2.2.2.1 (C0.2.2.2.2.1 _ k_WS_7) (C0.2.2.2.2.1 _ k_inst_SE) (C0.2.2.2.2.1 _ k_ini_SE) C0.2.2.2.2.2.1 hB.1 hB.2.1 hB.2.2.1 hB.2.2.2 rfl (fun j hj => by rcases (show j = 0 ∨ j = 1 ∨ j = 2 ∨ j = 3 ∨ j = 4 ∨ j = 5 ∨ j = 6 ∨ j = 7 ∨ j = 8 ∨ j = 9 ∨ j = 10 ∨ j = 11 by omega) with rfl | rfl | rfl | rfl | rfl | rfl | rfl | rfl | rfl | rfl | rfl | rfl <;> rfl) hcells hslots hdg (fun q H1 hP hD hS => kk q H1 ⟨hP, hD, hS, hB.2.2.2⟩)
theorem nw_SE_9 (C0 : cX p m c cc nL s args R_SE g classes tys) (hB : wB g classes A H0 w H locs) (hcells : cells + 1 ≤ R.cells) (hslots : slots + 6 ≤ R.slots) (hdg : decode cc pc = .ok (.new 9, 3)) (kk : ∀ (q : Nat) (H1 : Heap), wB g classes A H0 (w ++ [(q, .inr (1, [.null, .null, .null, .null, .null, .int 0]))]) H1 locs → W p l e R s m args below meth c H1 locs (cells + 1) (slots + 6) Q (F0 m (pc + 3) ls (.ref q :: rest))) : W p l e R s m args below meth c H locs cells slots Q (F0 m pc ls rest) :=
  va_new (ci := 1) (fs := [.null, .null, .null, .null, .null, .int 0]) C0.1 C0.2.1 C0.2.2.2.2.1 iw_TH t_TH t_TH_ok C0.2.2.2.1 (C0.2.2.2.2.1 _ k_SE_9) (C0.2.2.2.2.1 _ k_inst_TH) (C0.2.2.2.2.1 _ k_ini_TH) C0.2.2.2.2.2.1 hB.1 hB.2.1 hB.2.2.1 hB.2.2.2 rfl (fun j hj => by rcases (show j = 0 ∨ j = 1 ∨ j = 2 ∨ j = 3 ∨ j = 4 ∨ j = 5 by omega) with rfl | rfl | rfl | rfl | rfl | rfl <;> rfl) hcells hslots hdg (fun q H1 hP hD hS => kk q H1 ⟨hP, hD, hS, hB.2.2.2⟩)
theorem nw_SE_18 (C0 : cX p m c cc nL s args R_SE g classes tys) (hB : wB g classes A H0 w H locs) (hcells : cells + 1 ≤ R.cells) (hslots : slots + 5 ≤ R.slots) (hdg : decode cc pc = .ok (.new 18, 3)) (kk : ∀ (q : Nat) (H1 : Heap), wB g classes A H0 (w ++ [(q, .inr (2, [.null, .null, .null, .null, .int 0]))]) H1 locs → W p l e R s m args below meth c H1 locs (cells + 1) (slots + 5) Q (F0 m (pc + 3) ls (.ref q :: rest))) : W p l e R s m args below meth c H locs cells slots Q (F0 m pc ls rest) :=
  va_new (ci := 2) (fs := [.null, .null, .null, .null, .int 0]) C0.1 C0.2.1 C0.2.2.2.2.1 iw_PI t_PI t_PI_ok C0.2.2.2.1 (C0.2.2.2.2.1 _ k_SE_18) (C0.2.2.2.2.1 _ k_inst_PI) (C0.2.2.2.2.1 _ k_ini_PI) C0.2.2.2.2.2.1 hB.1 hB.2.1 hB.2.2.1 hB.2.2.2 rfl (fun j hj => by rcases (show j = 0 ∨ j = 1 ∨ j = 2 ∨ j = 3 ∨ j = 4 by omega) with rfl | rfl | rfl | rfl | rfl <;> rfl) hcells hslots hdg (fun q H1 hP hD hS => kk q H1 ⟨hP, hD, hS, hB.2.2.2⟩)
theorem nw_SE_84 (C0 : cX p m c cc nL s args R_SE g classes tys) (hB : wB g classes A H0 w H locs) (hcells : cells + 1 ≤ R.cells) (hslots : slots + 5 ≤ R.slots) (hdg : decode cc pc = .ok (.new 84, 3)) (kk : ∀ (q : Nat) (H1 : Heap), wB g classes A H0 (w ++ [(q, .inr (4, [.int 0, .int 0, .long 0, .null, .null]))]) H1 locs → W p l e R s m args below meth c H1 locs (cells + 1) (slots + 5) Q (F0 m (pc + 3) ls (.ref q :: rest))) : W p l e R s m args below meth c H locs cells slots Q (F0 m pc ls rest) :=
  va_new (ci := 4) (fs := [.int 0, .int 0, .long 0, .null, .null]) C0.1 C0.2.1 C0.2.2.2.2.1 iw_FW t_FW t_FW_ok C0.2.2.2.1 (C0.2.2.2.2.1 _ k_SE_84) (C0.2.2.2.2.1 _ k_inst_FW) (C0.2.2.2.2.1 _ k_ini_FW) C0.2.2.2.2.2.1 hB.1 hB.2.1 hB.2.2.1 hB.2.2.2 rfl (fun j hj => by rcases (show j = 0 ∨ j = 1 ∨ j = 2 ∨ j = 3 ∨ j = 4 by omega) with rfl | rfl | rfl | rfl | rfl <;> rfl) hcells hslots hdg (fun q H1 hP hD hS => kk q H1 ⟨hP, hD, hS, hB.2.2.2⟩)
theorem nw_LW_10 (C0 : cX p m c cc nL s args R_LW g classes tys) (hB : wB g classes A H0 w H locs) (hcells : cells + 1 ≤ R.cells) (hslots : slots + 21 ≤ R.slots) (hdg : decode cc pc = .ok (.new 10, 3)) (kk : ∀ (q : Nat) (H1 : Heap), wB g classes A H0 (w ++ [(q, .inr (5, [.null, .null, .null, .null, .null, .int 0, .null, .null, .null, .null, .int 0, .null, .null, .null, .null, .int 0, .null, .null, .null, .null, .null]))]) H1 locs → W p l e R s m args below meth c H1 locs (cells + 1) (slots + 21) Q (F0 m (pc + 3) ls (.ref q :: rest))) : W p l e R s m args below meth c H locs cells slots Q (F0 m pc ls rest) :=
  va_new (ci := 5) (fs := [.null, .null, .null, .null, .null, .int 0, .null, .null, .null, .null, .int 0, .null, .null, .null, .null, .int 0, .null, .null, .null, .null, .null]) C0.1 C0.2.1 C0.2.2.2.2.1 iw_MO t_MO t_MO_ok C0.2.2.2.1 (C0.2.2.2.2.1 _ k_LW_10) (C0.2.2.2.2.1 _ k_inst_MO) (C0.2.2.2.2.1 _ k_ini_MO) C0.2.2.2.2.2.1 hB.1 hB.2.1 hB.2.2.1 hB.2.2.2 rfl (fun j hj => by rcases (show j = 0 ∨ j = 1 ∨ j = 2 ∨ j = 3 ∨ j = 4 ∨ j = 5 ∨ j = 6 ∨ j = 7 ∨ j = 8 ∨ j = 9 ∨ j = 10 ∨ j = 11 ∨ j = 12 ∨ j = 13 ∨ j = 14 ∨ j = 15 ∨ j = 16 ∨ j = 17 ∨ j = 18 ∨ j = 19 ∨ j = 20 by omega) with rfl | rfl | rfl | rfl | rfl | rfl | rfl | rfl | rfl | rfl | rfl | rfl | rfl | rfl | rfl | rfl | rfl | rfl | rfl | rfl | rfl <;> rfl) hcells hslots hdg (fun q H1 hP hD hS => kk q H1 ⟨hP, hD, hS, hB.2.2.2⟩)
end NEWS
theorem map_gD {ap : Nat → Nat} {Wl : List Nat} {k : Nat} (h : k < Wl.length) : (Wl.map ap).getD k 0 = ap (Wl.getD k 0) := by
  simp [List.getD, h]
/-- what the class's search says of a graph: the costs are exact; the way, if there is one, is the walk by the first tight arcs -/
def cLW (kd : Nat → Nat) (ii oo : Nat → Int32) (np : Nat) (ea eb li : Nat → Nat) (sT sP : Nat → Bool) (u0 e0 : Nat) (x : Option (Nat × List Nat × List Nat)) : Prop :=
  ∃ (k : Nat) (ap af tt ac c : Nat → Nat), Arcs kd ii oo ea eb li sT sP e0 np k ap af tt ac ∧ bf_ex k af tt ac e0 c ∧ c e0 = 0 ∧ ((x = none ∧ c u0 = bf_far) ∨ (c u0 ≠ bf_far ∧ ∃ Wl, bf_fw k af tt ac c e0 u0 Wl ∧ Wl.length < 48 ∧ x = some (c u0 / 64, Wl.map ap, bf_nodes tt u0 Wl)))
theorem Arcs_bd {kd : Nat → Nat} {ii oo : Nat → Int32} {ea eb li : Nat → Nat} {sT sP : Nat → Bool} {e np k n : Nat} {ap af tt ac : Nat → Nat} (h : Arcs kd ii oo ea eb li sT sP e np k ap af tt ac) (hnp : np ≤ 96) (hn : n ≤ 48) (hea : ∀ j, j < np → ea j < n) (heb : ∀ j, j < np → eb j < n) (hli : ∀ j, j < np → 1 ≤ li j ∧ li j ≤ 1000000000) : k ≤ 192 ∧ (∀ j, j < k → af j < 48) ∧ (∀ j, j < k → tt j < 48) ∧ (∀ j, j < k → ac j ≤ 100000000000) ∧ (∀ j, j < k → 0 < ac j) ∧ ∀ j, j < k → ap j < np := by
  obtain ⟨h1, h2, -⟩ := h
  have hv : ∀ v, valv kd v ≤ 1 := fun v => by unfold valv; split <;> omega
  refine ⟨by omega, fun j hj => ?_, fun j hj => ?_, fun j hj => ?_, fun j hj => ?_, fun j hj => (h2 j hj).1⟩
  · obtain ⟨a1, -, a2, -⟩ := h2 j hj
    have b1 := hea _ a1
    have b2 := heb _ a1
    rcases a2 with a2 | a2 <;> omega
  · obtain ⟨a1, -, a2, -⟩ := h2 j hj
    have b1 := hea _ a1
    have b2 := heb _ a1
    rcases a2 with a2 | a2 <;> omega
  · obtain ⟨a1, -, -, -, a2⟩ := h2 j hj
    have := hli _ a1
    have := hv (tt j)
    omega
  · obtain ⟨a1, -, -, -, a2⟩ := h2 j hj
    have := hli _ a1
    omega

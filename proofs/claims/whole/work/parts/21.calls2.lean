theorem fwd_1 {n : Nat} {kd : Nat → Nat} {np : Nat} {ea eb : Nat → Nat} {x y z : Int32} (h : isK n kd x 1 = false) : fwdB n kd np ea eb x y z = false := by
  unfold fwdB; rw [h]; rfl
theorem fwd_2 {n : Nat} {kd : Nat → Nat} {np : Nat} {ea eb : Nat → Nat} {x y z : Int32} (h : y = z) : fwdB n kd np ea eb x y z = false := by
  unfold fwdB; rw [decide_eq_false (fun q : ¬ y = z => q h), Bool.and_false]; rfl
theorem fwd_3 {n : Nat} {kd : Nat → Nat} {np : Nat} {ea eb : Nat → Nat} {x y z : Int32} (h : anyN (joinB ea eb x y) np = false) : fwdB n kd np ea eb x y z = false := by
  unfold fwdB; rw [h, Bool.false_and, Bool.and_false]
theorem fwd_4 {n : Nat} {kd : Nat → Nat} {np : Nat} {ea eb : Nat → Nat} {x y z : Int32} (h : anyN (joinB ea eb x z) np = false) : fwdB n kd np ea eb x y z = false := by
  unfold fwdB; rw [h, Bool.and_false, Bool.and_false]
theorem fwd_5 {n : Nat} {kd : Nat → Nat} {np : Nat} {ea eb : Nat → Nat} {x y z : Int32} (h1 : isK n kd x 1 = true) (h2 : ¬ y = z) (h3 : anyN (joinB ea eb x y) np = true) (h4 : anyN (joinB ea eb x z) np = true) : fwdB n kd np ea eb x y z = true := by
  unfold fwdB; rw [h1, decide_eq_true h2, h3, h4]; rfl
/-- the k-th valve on a row of things, or none -/
def vOf (kd : Nat → Nat) (tl : List Nat) (k : Int32) : Int32 := match (tl.filter (fun v => decide (kd v = 2)))[k.toNatClampNeg]? with
  | some v => if k < 0 then -1 else nI v
  | none => -1
theorem flt_s {kd : Nat → Nat} {tl : List Nat} {j : Nat} (hj : j < tl.length) : (tl.take (j + 1)).filter (fun v => decide (kd v = 2)) = (tl.take j).filter (fun v => decide (kd v = 2)) ++ (if kd (tl.getD j 0) = 2 then [tl.getD j 0] else []) := by
  have e : tl.getD j 0 = tl[j] := by simp [List.getD, hj]
  rw [List.take_add_one, List.filter_append, List.getElem?_eq_getElem hj, e]
  congr 1
  by_cases h : kd tl[j] = 2
  · rw [if_pos h]
    simp [List.filter_cons, h]
  · rw [if_neg h]
    simp [List.filter_cons, h]
theorem flt_cnt {kd : Nat → Nat} {tl : List Nat} {j : Nat} (hj : j < tl.length) : ((tl.take (j + 1)).filter (fun v => decide (kd v = 2))).length = ((tl.take j).filter (fun v => decide (kd v = 2))).length + (if kd (tl.getD j 0) = 2 then 1 else 0) := by
  rw [flt_s hj, List.length_append]
  split <;> rfl
theorem flt_pre {kd : Nat → Nat} {tl : List Nat} {j : Nat} (hj : j < tl.length) (h : kd (tl.getD j 0) = 2) : (tl.filter (fun v => decide (kd v = 2)))[((tl.take j).filter (fun v => decide (kd v = 2))).length]? = some (tl.getD j 0) := by
  have e : tl = tl.take (j + 1) ++ tl.drop (j + 1) := (List.take_append_drop _ _).symm
  have e2 : tl.filter (fun v => decide (kd v = 2)) = (tl.take (j + 1)).filter (fun v => decide (kd v = 2)) ++ (tl.drop (j + 1)).filter (fun v => decide (kd v = 2)) := by rw [← List.filter_append, ← e]
  rw [e2, flt_s hj, if_pos h, List.append_assoc, List.getElem?_append_right (Nat.le_refl _), Nat.sub_self]
  rfl
theorem vOf_neg {kd : Nat → Nat} {tl : List Nat} {k : Int32} (h : k < 0) : vOf kd tl k = -1 := by
  unfold vOf; split
  · rw [if_pos h]
  · rfl
theorem vOf_at {kd : Nat → Nat} {tl : List Nat} {k : Int32} {j : Nat} (hl : tl.length < 1000) (hj : j < tl.length) (h : kd (tl.getD j 0) = 2) (e : nI ((tl.take j).filter (fun v => decide (kd v = 2))).length = k) : vOf kd tl k = nI (tl.getD j 0) := by
  have hb : ((tl.take j).filter (fun v => decide (kd v = 2))).length < 2 ^ 31 := by
    have h1 := List.length_filter_le (fun v => decide (kd v = 2)) (tl.take j)
    have h2 : (tl.take j).length ≤ tl.length := by simp; omega
    omega
  unfold vOf
  rw [← e, nI_clamp hb, flt_pre hj h]
  show (if _ then _ else _) = _
  rw [if_neg (nI_pos hb)]
theorem vOf_no {kd : Nat → Nat} {tl : List Nat} {k : Int32} (hl : tl.length < 1000) (h : ∀ i, i < (tl.filter (fun v => decide (kd v = 2))).length → ¬ nI i = k) : vOf kd tl k = -1 := by
  unfold vOf
  split
  · rename_i v hv
    have hi := (List.getElem?_eq_some_iff.mp hv).1
    by_cases h0 : k < 0
    · rw [if_pos h0]
    · obtain ⟨j, hj, e⟩ := nI_of h0
      rw [e, nI_clamp hj] at hi
      exact absurd e.symm (h j hi)
  · rfl
/-- pipe k from the end of those that can be flushed back -/
def blw (kd : Nat → Nat) (pl tl : List Nat) (k : Nat) : Int32 := if (∀ i, i < k → kd (tl.getD (pl.length - 1 - i) 0) ≠ 1) ∧ k < pl.length then nI (pl.getD (pl.length - 1 - k) 0) else -1

section CALLS2
variable {l : Launch} {g : va_G} {t : Nat → ClassId} {a : Nat → Nat} {n : Nat} {kd : Nat → Nat} {em : Nat → Bool} {br : Nat → Bool} {ii : Nat → Int32} {oo : Nat → Int32} {np : Nat} {ea : Nat → Nat} {eb : Nat → Nat} {li : Nat → Nat} {rn : Nat → Bool} {wa : Nat → Option Nat} {wn : Nat} {sT : Nat → Bool} {sP : Nat → Bool} {ak : Nat} {ap : Nat → Nat} {af : Nat → Nat} {tt : Nat → Nat} {ac : Nat → Nat} {ct : Nat → Nat} {rp : Nat → Nat} {rt : Nat → Nat} {rest : va_W} {L : List Wy}
set_option maxHeartbeats 4000000 in
set_option maxRecDepth 100000 in
theorem c_WS_pipe_no (x y : Int32) (z : Int64) (hn : n ≤ 48) (hno : ¬ pipR n np x y z = 0) : Rd l y_WS_pipe w_WS_pipe ({ frames := 1, cells := 0, slots := 0, locals := 24 }) g classes (tyL t) [.ref (a 0), .int x, .int y, .long z] (wW a t n kd em br ii oo np ea eb li rn wa wn sT sP ak ap af tt ac ct rp rt rest L) (some (.int (pipR n np x y z))) := by
  refine Rd.of (cc := b_WS_pipe) (maxL := 5) (ret := (some .int)) (own := R_WS) (by decide) rfl rfl (Nat.le_of_ble_eq_true rfl) ?_
  intro p e s m args below meth c C0 hr hlk hP ls hl
  have hl : lv_has ls 5 [(0, .ref (a 0)), (1, .int x), (2, .int y), (3, .long z)] := hl
  refine lv_aload_n C0.1 C0.2.1 d_WS_pipe_0 rfl (lv_at hl 0 rfl) ?_
  refine gf_WS_20 C0 hP 0 rfl rfl d_WS_pipe_1 ?_
  refine lv_iload_n C0.1 C0.2.1 d_WS_pipe_4 rfl (lv_at hl 1 rfl) ?_
  refine cR (As := [.int x]) (rest := []) C0 (c_TH_has x hn) (q_WS_42 C0.2.2.2.2.1 rfl rfl ⟨Nat.le_of_ble_eq_true rfl, Nat.le_of_ble_eq_true rfl⟩) (ci := 1) (q0 := 1) rfl rfl rfl hP hl.1 rfl rfl (Nat.le_of_ble_eq_true rfl) d_WS_pipe_5 ⟨Nat.zero_le _, Nat.zero_le _⟩ ?_
  refine W.eq (g2 := F0 m 8 ls [.int (bI (hasB n x))]) rfl ?_
  refine lv_if_eq (tgt := 22) C0.1 C0.2.1 d_WS_pipe_8 (by decide) (fun c_8 => ?_) (fun c_8 => ?_)
  · refine lv_bipush (v := -2) C0.1 C0.2.1 d_WS_pipe_22 (by decide) ?_
    exact eR_i C0 hr hlk (by rw [pipR_w (by rw [bI_0.mp c_8]; rfl)]) d_WS_pipe_24
  · refine lv_aload_n C0.1 C0.2.1 d_WS_pipe_11 rfl (lv_at hl 0 rfl) ?_
    refine gf_WS_20 C0 hP 0 rfl rfl d_WS_pipe_12 ?_
    refine lv_iload_n C0.1 C0.2.1 d_WS_pipe_15 rfl (lv_at hl 2 rfl) ?_
    refine cR (As := [.int y]) (rest := []) C0 (c_TH_has y hn) (q_WS_42 C0.2.2.2.2.1 rfl rfl ⟨Nat.le_of_ble_eq_true rfl, Nat.le_of_ble_eq_true rfl⟩) (ci := 1) (q0 := 1) rfl rfl rfl hP hl.1 rfl rfl (Nat.le_of_ble_eq_true rfl) d_WS_pipe_16 ⟨Nat.zero_le _, Nat.zero_le _⟩ ?_
    refine W.eq (g2 := F0 m 19 ls [.int (bI (hasB n y))]) rfl ?_
    refine lv_if_ne (tgt := 25) C0.1 C0.2.1 d_WS_pipe_19 (by decide) (fun c_19 => ?_) (fun c_19 => ?_)
    · refine lv_lload_n C0.1 C0.2.1 d_WS_pipe_25 rfl (lv_at hl 3 rfl) ?_
      refine lv_lconst (v := lN 1) C0.1 C0.2.1 d_WS_pipe_26 rfl ?_
      refine W.lcmp C0.1 C0.2.1 d_WS_pipe_27 ?_
      refine lv_if_lt (tgt := 44) C0.1 C0.2.1 d_WS_pipe_28 (by decide) (fun c_28 => ?_) (fun c_28 => ?_)
      · refine lv_iconst (v := -1) C0.1 C0.2.1 d_WS_pipe_44 (by decide) ?_
        exact eR_i C0 hr hlk (by rw [pipR_n (bI_n0.mp c_8) (bI_n0.mp c_19) (Or.inl ((lg_cmp_lt _ _).mp c_28))]) d_WS_pipe_45
      · refine lv_lload_n C0.1 C0.2.1 d_WS_pipe_31 rfl (lv_at hl 3 rfl) ?_
        refine lv_ldc2 C0.1 C0.2.1 C0.2.2.2.1 (C0.2.2.2.2.1 _ k_WS_46) d_WS_pipe_32 ?_
        refine tl (show (1000000000 : Int64) = lN 1000000000 from rfl) ?_
        refine W.lcmp C0.1 C0.2.1 d_WS_pipe_35 ?_
        refine lv_if_gt (tgt := 44) C0.1 C0.2.1 d_WS_pipe_36 (by decide) (fun c_36 => ?_) (fun c_36 => ?_)
        · refine lv_iconst (v := -1) C0.1 C0.2.1 d_WS_pipe_44 (by decide) ?_
          exact eR_i C0 hr hlk (by rw [pipR_n (bI_n0.mp c_8) (bI_n0.mp c_19) (Or.inr (Or.inl ((lg_cmp_gt _ _).mp c_36)))]) d_WS_pipe_45
        · refine lv_iload_n C0.1 C0.2.1 d_WS_pipe_39 rfl (lv_at hl 1 rfl) ?_
          refine lv_iload_n C0.1 C0.2.1 d_WS_pipe_40 rfl (lv_at hl 2 rfl) ?_
          refine lv_icmp_ne (tgt := 46) C0.1 C0.2.1 d_WS_pipe_41 (by decide) (fun c_41 => ?_) (fun c_41 => ?_)
          · have h96 : np = 96 := by
              rcases Classical.em (np = 96) with q | q
              · exact q
              · exact absurd (pipR_0 (bI_n0.mp c_8) (bI_n0.mp c_19) (fun q => by rcases q with q | q | q; exact c_28 ((lg_cmp_lt _ _).mpr q); exact c_36 ((lg_cmp_gt _ _).mpr q); exact c_41 q) q) hno
            refine lv_aload_n C0.1 C0.2.1 d_WS_pipe_46 rfl (lv_at hl 0 rfl) ?_
            refine gf_WS_25 C0 hP 0 rfl rfl d_WS_pipe_47 ?_
            refine lv_iload_n C0.1 C0.2.1 d_WS_pipe_50 rfl (lv_at hl 1 rfl) ?_
            refine lv_iload_n C0.1 C0.2.1 d_WS_pipe_51 rfl (lv_at hl 2 rfl) ?_
            refine lv_lload_n C0.1 C0.2.1 d_WS_pipe_52 rfl (lv_at hl 3 rfl) ?_
            refine cR (As := [.int x, .int y, .long z]) (rest := []) C0 (c_PI_add_full x y z h96) (q_WS_48 C0.2.2.2.2.1 rfl rfl ⟨Nat.le_of_ble_eq_true rfl, Nat.le_of_ble_eq_true rfl⟩) (ci := 2) (q0 := 2) rfl rfl rfl hP hl.1 rfl rfl (Nat.le_of_ble_eq_true rfl) d_WS_pipe_53 ⟨Nat.zero_le _, Nat.zero_le _⟩ ?_
            refine W.eq (g2 := F0 m 56 ls [.int (-5)]) rfl ?_
            exact eR_i C0 hr hlk (by rw [pipR_f (bI_n0.mp c_8) (bI_n0.mp c_19) (fun q => by rcases q with q | q | q; exact c_28 ((lg_cmp_lt _ _).mpr q); exact c_36 ((lg_cmp_gt _ _).mpr q); exact c_41 q) h96]) d_WS_pipe_56
          · refine lv_iconst (v := -1) C0.1 C0.2.1 d_WS_pipe_44 (by decide) ?_
            exact eR_i C0 hr hlk (by rw [pipR_n (bI_n0.mp c_8) (bI_n0.mp c_19) (Or.inr (Or.inr c_41))]) d_WS_pipe_45
    · refine lv_bipush (v := -2) C0.1 C0.2.1 d_WS_pipe_22 (by decide) ?_
      exact eR_i C0 hr hlk (by rw [pipR_w (by rw [bI_0.mp c_19, Bool.and_false])]) d_WS_pipe_24
set_option maxHeartbeats 4000000 in
set_option maxRecDepth 100000 in
theorem c_WS_pipe (i j k : Nat) (hi : i < n) (hj : j < n) (hij : i ≠ j) (hk1 : 1 ≤ k) (hk2 : k ≤ 1000000000) (hn : n ≤ 48) (hnp : np < 96) : Mt l y_WS_pipe w_WS_pipe ({ frames := 1, cells := 0, slots := 0, locals := 24 }) g classes (tyL t) [.ref (a 0), .int (nI i), .int (nI j), .long (lN k)] (wW a t n kd em br ii oo np ea eb li rn wa wn sT sP ak ap af tt ac ct rp rt rest L) (S := Unit) (fun v _ => v = some (.int (nI np))) (fun _ => (wW a t n kd em br ii oo (np + 1) (va_up ea np i) (va_up eb np j) (va_up li np k) rn wa wn sT sP ak ap af tt ac ct rp rt rest L)) 0 0 := by
  refine Mt.of (cc := b_WS_pipe) (maxL := 5) (ret := (some .int)) (own := R_WS) (by decide) rfl rfl (Nat.le_of_ble_eq_true rfl) ?_
  intro p e s m args below meth c C0 hr hlk hin A hA hB ls hl
  have hl : lv_has ls 5 [(0, .ref (a 0)), (1, .int (nI i)), (2, .int (nI j)), (3, .long (lN k))] := hl
  refine lv_aload_n C0.1 C0.2.1 d_WS_pipe_0 rfl (lv_at hl 0 rfl) ?_
  refine gf_WS_20 C0 hB.1 0 rfl rfl d_WS_pipe_1 ?_
  refine lv_iload_n C0.1 C0.2.1 d_WS_pipe_4 rfl (lv_at hl 1 rfl) ?_
  refine cR (As := [.int (nI i)]) (rest := []) C0 (c_TH_has (nI i) hn) (q_WS_42 C0.2.2.2.2.1 rfl rfl ⟨Nat.le_of_ble_eq_true rfl, Nat.le_of_ble_eq_true rfl⟩) (ci := 1) (q0 := 1) rfl rfl rfl hB.1 hl.1 rfl rfl (Nat.le_of_ble_eq_true rfl) d_WS_pipe_5 ⟨Nat.zero_le _, Nat.zero_le _⟩ ?_
  refine W.eq (g2 := F0 m 8 ls [.int (bI (hasB n (nI i)))]) rfl ?_
  refine lv_if_eq (tgt := 22) C0.1 C0.2.1 d_WS_pipe_8 (by decide) (fun c_8 => ?_) (fun c_8 => ?_)
  · exact absurd (bI_0.mp c_8) (by rw [hasB_nI (by omega), decide_eq_true hi]; decide)
  · refine lv_aload_n C0.1 C0.2.1 d_WS_pipe_11 rfl (lv_at hl 0 rfl) ?_
    refine gf_WS_20 C0 hB.1 0 rfl rfl d_WS_pipe_12 ?_
    refine lv_iload_n C0.1 C0.2.1 d_WS_pipe_15 rfl (lv_at hl 2 rfl) ?_
    refine cR (As := [.int (nI j)]) (rest := []) C0 (c_TH_has (nI j) hn) (q_WS_42 C0.2.2.2.2.1 rfl rfl ⟨Nat.le_of_ble_eq_true rfl, Nat.le_of_ble_eq_true rfl⟩) (ci := 1) (q0 := 1) rfl rfl rfl hB.1 hl.1 rfl rfl (Nat.le_of_ble_eq_true rfl) d_WS_pipe_16 ⟨Nat.zero_le _, Nat.zero_le _⟩ ?_
    refine W.eq (g2 := F0 m 19 ls [.int (bI (hasB n (nI j)))]) rfl ?_
    refine lv_if_ne (tgt := 25) C0.1 C0.2.1 d_WS_pipe_19 (by decide) (fun c_19 => ?_) (fun c_19 => ?_)
    · refine lv_lload_n C0.1 C0.2.1 d_WS_pipe_25 rfl (lv_at hl 3 rfl) ?_
      refine lv_lconst (v := lN 1) C0.1 C0.2.1 d_WS_pipe_26 rfl ?_
      refine W.lcmp C0.1 C0.2.1 d_WS_pipe_27 ?_
      refine lv_if_lt (tgt := 44) C0.1 C0.2.1 d_WS_pipe_28 (by decide) (fun c_28 => ?_) (fun c_28 => ?_)
      · exact absurd ((pk_lLT (by omega) (by decide)).mp ((lg_cmp_lt _ _).mp c_28)) (by omega)
      · refine lv_lload_n C0.1 C0.2.1 d_WS_pipe_31 rfl (lv_at hl 3 rfl) ?_
        refine lv_ldc2 C0.1 C0.2.1 C0.2.2.2.1 (C0.2.2.2.2.1 _ k_WS_46) d_WS_pipe_32 ?_
        refine tl (show (1000000000 : Int64) = lN 1000000000 from rfl) ?_
        refine W.lcmp C0.1 C0.2.1 d_WS_pipe_35 ?_
        refine lv_if_gt (tgt := 44) C0.1 C0.2.1 d_WS_pipe_36 (by decide) (fun c_36 => ?_) (fun c_36 => ?_)
        · exact absurd ((pk_lLT (by decide) (by omega)).mp ((lg_cmp_gt _ _).mp c_36)) (by omega)
        · refine lv_iload_n C0.1 C0.2.1 d_WS_pipe_39 rfl (lv_at hl 1 rfl) ?_
          refine lv_iload_n C0.1 C0.2.1 d_WS_pipe_40 rfl (lv_at hl 2 rfl) ?_
          refine lv_icmp_ne (tgt := 46) C0.1 C0.2.1 d_WS_pipe_41 (by decide) (fun c_41 => ?_) (fun c_41 => ?_)
          · refine lv_aload_n C0.1 C0.2.1 d_WS_pipe_46 rfl (lv_at hl 0 rfl) ?_
            refine gf_WS_25 C0 hB.1 0 rfl rfl d_WS_pipe_47 ?_
            refine lv_iload_n C0.1 C0.2.1 d_WS_pipe_50 rfl (lv_at hl 1 rfl) ?_
            refine lv_iload_n C0.1 C0.2.1 d_WS_pipe_51 rfl (lv_at hl 2 rfl) ?_
            refine lv_lload_n C0.1 C0.2.1 d_WS_pipe_52 rfl (lv_at hl 3 rfl) ?_
            refine cM (As := [.int (nI i), .int (nI j), .long (lN k)]) (rest := []) C0 (c_PI_add i j k hnp) (q_WS_48 C0.2.2.2.2.1 rfl rfl ⟨Nat.le_of_ble_eq_true rfl, Nat.le_of_ble_eq_true rfl⟩) (ci := 2) (q0 := 2) rfl rfl rfl hB hl.1 rfl rfl (Nat.le_of_ble_eq_true rfl) d_WS_pipe_53 ⟨Nat.zero_le _, Nat.zero_le _⟩ (fun v_53 u_53 H locs hp_53 hB => ?_)
            obtain rfl := hp_53
            have hB : wB g classes A s.heap (wW a t n kd em br ii oo (np + 1) (va_up ea np i) (va_up eb np j) (va_up li np k) rn wa wn sT sP ak ap af tt ac ct rp rt rest L) H locs := hB
            refine W.eq (g2 := F0 m 56 ls [.int (nI np)]) rfl ?_
            exact eM_i C0 hr hlk () hB (rfl) (Nat.le_refl _) (Nat.le_refl _) d_WS_pipe_56
          · exact absurd ((nI_eq (by omega) (by omega)).mp c_41) hij
    · exact absurd (bI_0.mp c_19) (by rw [hasB_nI (by omega), decide_eq_true hj]; decide)
set_option maxHeartbeats 4000000 in
set_option maxRecDepth 100000 in
theorem c_WS_run_no (x : Int32) (b0 : Bool) (hn : np ≤ 96) (hno : hasB np x = false) : Rd l y_WS_run w_WS_run ({ frames := 1, cells := 0, slots := 0, locals := 23 }) g classes (tyL t) [.ref (a 0), .int x, .int (bI b0)] (wW a t n kd em br ii oo np ea eb li rn wa wn sT sP ak ap af tt ac ct rp rt rest L) (some (.int (bI false))) := by
  refine Rd.of (cc := b_WS_run) (maxL := 3) (ret := (some .boolean)) (own := R_WS) (by decide) rfl rfl (Nat.le_of_ble_eq_true rfl) ?_
  intro p e s m args below meth c C0 hr hlk hP ls hl
  have hl : lv_has ls 3 [(0, .ref (a 0)), (1, .int x), (2, .int (bI b0))] := hl
  refine lv_aload_n C0.1 C0.2.1 d_WS_run_0 rfl (lv_at hl 0 rfl) ?_
  refine gf_WS_25 C0 hP 0 rfl rfl d_WS_run_1 ?_
  refine lv_iload_n C0.1 C0.2.1 d_WS_run_4 rfl (lv_at hl 1 rfl) ?_
  refine cR (As := [.int x]) (rest := []) C0 (c_PI_has x hn) (q_WS_53 C0.2.2.2.2.1 rfl rfl ⟨Nat.le_of_ble_eq_true rfl, Nat.le_of_ble_eq_true rfl⟩) (ci := 2) (q0 := 2) rfl rfl rfl hP hl.1 rfl rfl (Nat.le_of_ble_eq_true rfl) d_WS_run_5 ⟨Nat.zero_le _, Nat.zero_le _⟩ ?_
  refine W.eq (g2 := F0 m 8 ls [.int (bI (hasB np x))]) rfl ?_
  refine lv_if_ne (tgt := 13) C0.1 C0.2.1 d_WS_run_8 (by decide) (fun c_8 => ?_) (fun c_8 => ?_)
  · exact absurd hno (by rw [bI_n0.mp c_8]; decide)
  · refine lv_iconst (v := nI 0) C0.1 C0.2.1 d_WS_run_11 (by decide) ?_
    exact eR_z C0 hr hlk (b := false) (rfl) rfl d_WS_run_12
set_option maxHeartbeats 4000000 in
set_option maxRecDepth 100000 in
theorem c_WS_run (p0 : Nat) (b0 : Bool) (hn : np ≤ 96) (hp0 : p0 < np) : Mt l y_WS_run w_WS_run ({ frames := 1, cells := 0, slots := 0, locals := 23 }) g classes (tyL t) [.ref (a 0), .int (nI p0), .int (bI b0)] (wW a t n kd em br ii oo np ea eb li rn wa wn sT sP ak ap af tt ac ct rp rt rest L) (S := Unit) (fun v _ => v = some (.int (bI (decide (¬ rn p0 = b0))))) (fun _ => (wW a t n kd em br ii oo np ea eb li (va_up rn p0 b0) wa wn sT sP ak ap af tt ac ct rp rt rest L)) 0 0 := by
  refine Mt.of (cc := b_WS_run) (maxL := 3) (ret := (some .boolean)) (own := R_WS) (by decide) rfl rfl (Nat.le_of_ble_eq_true rfl) ?_
  intro p e s m args below meth c C0 hr hlk hin A hA hB ls hl
  have hl : lv_has ls 3 [(0, .ref (a 0)), (1, .int (nI p0)), (2, .int (bI b0))] := hl
  refine lv_aload_n C0.1 C0.2.1 d_WS_run_0 rfl (lv_at hl 0 rfl) ?_
  refine gf_WS_25 C0 hB.1 0 rfl rfl d_WS_run_1 ?_
  refine lv_iload_n C0.1 C0.2.1 d_WS_run_4 rfl (lv_at hl 1 rfl) ?_
  refine cR (As := [.int (nI p0)]) (rest := []) C0 (c_PI_has (nI p0) hn) (q_WS_53 C0.2.2.2.2.1 rfl rfl ⟨Nat.le_of_ble_eq_true rfl, Nat.le_of_ble_eq_true rfl⟩) (ci := 2) (q0 := 2) rfl rfl rfl hB.1 hl.1 rfl rfl (Nat.le_of_ble_eq_true rfl) d_WS_run_5 ⟨Nat.zero_le _, Nat.zero_le _⟩ ?_
  refine W.eq (g2 := F0 m 8 ls [.int (bI (hasB np (nI p0)))]) rfl ?_
  refine lv_if_ne (tgt := 13) C0.1 C0.2.1 d_WS_run_8 (by decide) (fun c_8 => ?_) (fun c_8 => ?_)
  · refine lv_aload_n C0.1 C0.2.1 d_WS_run_13 rfl (lv_at hl 0 rfl) ?_
    refine gf_WS_25 C0 hB.1 0 rfl rfl d_WS_run_14 ?_
    refine gf_WS_54 C0 hB.1 2 rfl rfl d_WS_run_17 ?_
    refine lv_iload_n C0.1 C0.2.1 d_WS_run_20 rfl (lv_at hl 1 rfl) ?_
    refine lv_iload_n C0.1 C0.2.1 d_WS_run_21 rfl (lv_at hl 2 rfl) ?_
    refine cMS (As := [.ref (a 13), .int (nI p0), .int (bI b0)]) (rest := []) C0 (c_WS_changeMark_rn p0 b0 (by omega)) (q_WS_58 C0.2.2.2.2.1 rfl rfl ⟨Nat.le_of_ble_eq_true rfl, Nat.le_of_ble_eq_true rfl⟩) hB hl.1 rfl rfl (Nat.le_of_ble_eq_true rfl) d_WS_run_22 ⟨Nat.zero_le _, Nat.zero_le _⟩ (fun v_22 u_22 H locs hp_22 hB => ?_)
    obtain rfl := hp_22
    have hB : wB g classes A s.heap (wW a t n kd em br ii oo np ea eb li (va_up rn p0 b0) wa wn sT sP ak ap af tt ac ct rp rt rest L) H locs := hB
    refine W.eq (g2 := F0 m 25 ls [.int (bI (decide (¬ rn p0 = b0)))]) rfl ?_
    exact eM_z C0 hr hlk (b := (decide (¬ rn p0 = b0))) () rfl hB rfl (Nat.le_refl _) (Nat.le_refl _) d_WS_run_25
  · exact absurd (bI_0.mp c_8) (by rw [hasB_nI (by omega), decide_eq_true hp0]; decide)
set_option maxHeartbeats 4000000 in
set_option maxRecDepth 100000 in
theorem c_WS_bar_no (x : Int32) (b0 : Bool) (hn : n ≤ 48) (hno : hasB n x = false) : Rd l y_WS_bar w_WS_bar ({ frames := 1, cells := 0, slots := 0, locals := 23 }) g classes (tyL t) [.ref (a 0), .int x, .int (bI b0)] (wW a t n kd em br ii oo np ea eb li rn wa wn sT sP ak ap af tt ac ct rp rt rest L) (some (.int (bI false))) := by
  refine Rd.of (cc := b_WS_bar) (maxL := 3) (ret := (some .boolean)) (own := R_WS) (by decide) rfl rfl (Nat.le_of_ble_eq_true rfl) ?_
  intro p e s m args below meth c C0 hr hlk hP ls hl
  have hl : lv_has ls 3 [(0, .ref (a 0)), (1, .int x), (2, .int (bI b0))] := hl
  refine lv_aload_n C0.1 C0.2.1 d_WS_bar_0 rfl (lv_at hl 0 rfl) ?_
  refine gf_WS_20 C0 hP 0 rfl rfl d_WS_bar_1 ?_
  refine lv_iload_n C0.1 C0.2.1 d_WS_bar_4 rfl (lv_at hl 1 rfl) ?_
  refine cR (As := [.int x]) (rest := []) C0 (c_TH_has x hn) (q_WS_42 C0.2.2.2.2.1 rfl rfl ⟨Nat.le_of_ble_eq_true rfl, Nat.le_of_ble_eq_true rfl⟩) (ci := 1) (q0 := 1) rfl rfl rfl hP hl.1 rfl rfl (Nat.le_of_ble_eq_true rfl) d_WS_bar_5 ⟨Nat.zero_le _, Nat.zero_le _⟩ ?_
  refine W.eq (g2 := F0 m 8 ls [.int (bI (hasB n x))]) rfl ?_
  refine lv_if_ne (tgt := 13) C0.1 C0.2.1 d_WS_bar_8 (by decide) (fun c_8 => ?_) (fun c_8 => ?_)
  · exact absurd hno (by rw [bI_n0.mp c_8]; decide)
  · refine lv_iconst (v := nI 0) C0.1 C0.2.1 d_WS_bar_11 (by decide) ?_
    exact eR_z C0 hr hlk (b := false) (rfl) rfl d_WS_bar_12
set_option maxHeartbeats 4000000 in
set_option maxRecDepth 100000 in
theorem c_WS_bar (p0 : Nat) (b0 : Bool) (hn : n ≤ 48) (hp0 : p0 < n) : Mt l y_WS_bar w_WS_bar ({ frames := 1, cells := 0, slots := 0, locals := 23 }) g classes (tyL t) [.ref (a 0), .int (nI p0), .int (bI b0)] (wW a t n kd em br ii oo np ea eb li rn wa wn sT sP ak ap af tt ac ct rp rt rest L) (S := Unit) (fun v _ => v = some (.int (bI (decide (¬ br p0 = b0))))) (fun _ => (wW a t n kd em (va_up br p0 b0) ii oo np ea eb li rn wa wn sT sP ak ap af tt ac ct rp rt rest L)) 0 0 := by
  refine Mt.of (cc := b_WS_bar) (maxL := 3) (ret := (some .boolean)) (own := R_WS) (by decide) rfl rfl (Nat.le_of_ble_eq_true rfl) ?_
  intro p e s m args below meth c C0 hr hlk hin A hA hB ls hl
  have hl : lv_has ls 3 [(0, .ref (a 0)), (1, .int (nI p0)), (2, .int (bI b0))] := hl
  refine lv_aload_n C0.1 C0.2.1 d_WS_bar_0 rfl (lv_at hl 0 rfl) ?_
  refine gf_WS_20 C0 hB.1 0 rfl rfl d_WS_bar_1 ?_
  refine lv_iload_n C0.1 C0.2.1 d_WS_bar_4 rfl (lv_at hl 1 rfl) ?_
  refine cR (As := [.int (nI p0)]) (rest := []) C0 (c_TH_has (nI p0) hn) (q_WS_42 C0.2.2.2.2.1 rfl rfl ⟨Nat.le_of_ble_eq_true rfl, Nat.le_of_ble_eq_true rfl⟩) (ci := 1) (q0 := 1) rfl rfl rfl hB.1 hl.1 rfl rfl (Nat.le_of_ble_eq_true rfl) d_WS_bar_5 ⟨Nat.zero_le _, Nat.zero_le _⟩ ?_
  refine W.eq (g2 := F0 m 8 ls [.int (bI (hasB n (nI p0)))]) rfl ?_
  refine lv_if_ne (tgt := 13) C0.1 C0.2.1 d_WS_bar_8 (by decide) (fun c_8 => ?_) (fun c_8 => ?_)
  · refine lv_aload_n C0.1 C0.2.1 d_WS_bar_13 rfl (lv_at hl 0 rfl) ?_
    refine gf_WS_20 C0 hB.1 0 rfl rfl d_WS_bar_14 ?_
    refine gf_WS_62 C0 hB.1 1 rfl rfl d_WS_bar_17 ?_
    refine lv_iload_n C0.1 C0.2.1 d_WS_bar_20 rfl (lv_at hl 1 rfl) ?_
    refine lv_iload_n C0.1 C0.2.1 d_WS_bar_21 rfl (lv_at hl 2 rfl) ?_
    refine cMS (As := [.ref (a 7), .int (nI p0), .int (bI b0)]) (rest := []) C0 (c_WS_changeMark_br p0 b0 (by omega)) (q_WS_58 C0.2.2.2.2.1 rfl rfl ⟨Nat.le_of_ble_eq_true rfl, Nat.le_of_ble_eq_true rfl⟩) hB hl.1 rfl rfl (Nat.le_of_ble_eq_true rfl) d_WS_bar_22 ⟨Nat.zero_le _, Nat.zero_le _⟩ (fun v_22 u_22 H locs hp_22 hB => ?_)
    obtain rfl := hp_22
    have hB : wB g classes A s.heap (wW a t n kd em (va_up br p0 b0) ii oo np ea eb li rn wa wn sT sP ak ap af tt ac ct rp rt rest L) H locs := hB
    refine W.eq (g2 := F0 m 25 ls [.int (bI (decide (¬ br p0 = b0)))]) rfl ?_
    exact eM_z C0 hr hlk (b := (decide (¬ br p0 = b0))) () rfl hB rfl (Nat.le_refl _) (Nat.le_refl _) d_WS_bar_25
  · exact absurd (bI_0.mp c_8) (by rw [hasB_nI (by omega), decide_eq_true hp0]; decide)
set_option maxHeartbeats 4000000 in
set_option maxRecDepth 100000 in
theorem c_WS_forward_no (x y z : Int32) (hn : n ≤ 48) (hnp : np ≤ 96) (hk : ∀ j, kd j < 3) (hno : fwdB n kd np ea eb x y z = false) : Rd l y_WS_forward w_WS_forward ({ frames := 2, cells := 0, slots := 0, locals := 43 }) g classes (tyL t) [.ref (a 0), .int x, .int y, .int z] (wW a t n kd em br ii oo np ea eb li rn wa wn sT sP ak ap af tt ac ct rp rt rest L) (some (.int (bI false))) := by
  refine Rd.of (cc := b_WS_forward) (maxL := 4) (ret := (some .boolean)) (own := R_WS) (by decide) rfl rfl (Nat.le_of_ble_eq_true rfl) ?_
  intro p e s m args below meth c C0 hr hlk hP ls hl
  have hl : lv_has ls 4 [(0, .ref (a 0)), (1, .int x), (2, .int y), (3, .int z)] := hl
  refine lv_aload_n C0.1 C0.2.1 d_WS_forward_0 rfl (lv_at hl 0 rfl) ?_
  refine gf_WS_20 C0 hP 0 rfl rfl d_WS_forward_1 ?_
  refine lv_iload_n C0.1 C0.2.1 d_WS_forward_4 rfl (lv_at hl 1 rfl) ?_
  refine lv_iconst (v := nI 1) C0.1 C0.2.1 d_WS_forward_5 (by decide) ?_
  refine cR (As := [.int x, .int (nI 1)]) (rest := []) C0 (c_TH_isKind x 1 (by decide) hn hk) (q_WS_91 C0.2.2.2.2.1 rfl rfl ⟨Nat.le_of_ble_eq_true rfl, Nat.le_of_ble_eq_true rfl⟩) (ci := 1) (q0 := 1) rfl rfl rfl hP hl.1 rfl rfl (Nat.le_of_ble_eq_true rfl) d_WS_forward_6 ⟨Nat.zero_le _, Nat.zero_le _⟩ ?_
  refine W.eq (g2 := F0 m 9 ls [.int (bI (isK n kd x 1))]) rfl ?_
  refine lv_if_eq (tgt := 17) C0.1 C0.2.1 d_WS_forward_9 (by decide) (fun c_9 => ?_) (fun c_9 => ?_)
  · refine lv_iconst (v := nI 0) C0.1 C0.2.1 d_WS_forward_17 (by decide) ?_
    exact eR_z C0 hr hlk (b := false) (rfl) rfl d_WS_forward_18
  · refine lv_iload_n C0.1 C0.2.1 d_WS_forward_12 rfl (lv_at hl 2 rfl) ?_
    refine lv_iload_n C0.1 C0.2.1 d_WS_forward_13 rfl (lv_at hl 3 rfl) ?_
    refine lv_icmp_ne (tgt := 19) C0.1 C0.2.1 d_WS_forward_14 (by decide) (fun c_14 => ?_) (fun c_14 => ?_)
    · refine lv_aload_n C0.1 C0.2.1 d_WS_forward_19 rfl (lv_at hl 0 rfl) ?_
      refine gf_WS_25 C0 hP 0 rfl rfl d_WS_forward_20 ?_
      refine lv_iload_n C0.1 C0.2.1 d_WS_forward_23 rfl (lv_at hl 1 rfl) ?_
      refine lv_iload_n C0.1 C0.2.1 d_WS_forward_24 rfl (lv_at hl 2 rfl) ?_
      refine cR (As := [.int x, .int y]) (rest := []) C0 (c_PI_anyJoins x y hnp) (q_WS_115 C0.2.2.2.2.1 rfl rfl ⟨Nat.le_of_ble_eq_true rfl, Nat.le_of_ble_eq_true rfl⟩) (ci := 2) (q0 := 2) rfl rfl rfl hP hl.1 rfl rfl (Nat.le_of_ble_eq_true rfl) d_WS_forward_25 ⟨Nat.zero_le _, Nat.zero_le _⟩ ?_
      refine W.eq (g2 := F0 m 28 ls [.int (bI (anyN (joinB ea eb x y) np))]) rfl ?_
      refine lv_if_eq (tgt := 43) C0.1 C0.2.1 d_WS_forward_28 (by decide) (fun c_28 => ?_) (fun c_28 => ?_)
      · refine lv_iconst (v := nI 0) C0.1 C0.2.1 d_WS_forward_43 (by decide) ?_
        exact eR_z C0 hr hlk (b := false) (rfl) rfl d_WS_forward_44
      · refine lv_aload_n C0.1 C0.2.1 d_WS_forward_31 rfl (lv_at hl 0 rfl) ?_
        refine gf_WS_25 C0 hP 0 rfl rfl d_WS_forward_32 ?_
        refine lv_iload_n C0.1 C0.2.1 d_WS_forward_35 rfl (lv_at hl 1 rfl) ?_
        refine lv_iload_n C0.1 C0.2.1 d_WS_forward_36 rfl (lv_at hl 3 rfl) ?_
        refine cR (As := [.int x, .int z]) (rest := []) C0 (c_PI_anyJoins x z hnp) (q_WS_115 C0.2.2.2.2.1 rfl rfl ⟨Nat.le_of_ble_eq_true rfl, Nat.le_of_ble_eq_true rfl⟩) (ci := 2) (q0 := 2) rfl rfl rfl hP hl.1 rfl rfl (Nat.le_of_ble_eq_true rfl) d_WS_forward_37 ⟨Nat.zero_le _, Nat.zero_le _⟩ ?_
        refine W.eq (g2 := F0 m 40 ls [.int (bI (anyN (joinB ea eb x z) np))]) rfl ?_
        refine lv_if_ne (tgt := 45) C0.1 C0.2.1 d_WS_forward_40 (by decide) (fun c_40 => ?_) (fun c_40 => ?_)
        · exact absurd (fwd_5 (bI_n0.mp c_9) c_14 (bI_n0.mp c_28) (bI_n0.mp c_40)) (by rw [hno]; decide)
        · refine lv_iconst (v := nI 0) C0.1 C0.2.1 d_WS_forward_43 (by decide) ?_
          exact eR_z C0 hr hlk (b := false) (rfl) rfl d_WS_forward_44
    · refine lv_iconst (v := nI 0) C0.1 C0.2.1 d_WS_forward_17 (by decide) ?_
      exact eR_z C0 hr hlk (b := false) (rfl) rfl d_WS_forward_18
set_option maxHeartbeats 4000000 in
set_option maxRecDepth 100000 in
theorem c_WS_forward (i : Nat) (y z : Int32) (hi : i < n) (hn : n ≤ 48) (hnp : np ≤ 96) (hk : ∀ j, kd j < 3) (hyes : fwdB n kd np ea eb (nI i) y z = true) : Mt l y_WS_forward w_WS_forward ({ frames := 2, cells := 0, slots := 0, locals := 43 }) g classes (tyL t) [.ref (a 0), .int (nI i), .int y, .int z] (wW a t n kd em br ii oo np ea eb li rn wa wn sT sP ak ap af tt ac ct rp rt rest L) (S := Unit) (fun v _ => v = some (.int (bI true))) (fun _ => (wW a t n kd em br (va_up ii i y) (va_up oo i z) np ea eb li rn wa wn sT sP ak ap af tt ac ct rp rt rest L)) 0 0 := by
  refine Mt.of (cc := b_WS_forward) (maxL := 4) (ret := (some .boolean)) (own := R_WS) (by decide) rfl rfl (Nat.le_of_ble_eq_true rfl) ?_
  intro p e s m args below meth c C0 hr hlk hin A hA hB ls hl
  have hl : lv_has ls 4 [(0, .ref (a 0)), (1, .int (nI i)), (2, .int y), (3, .int z)] := hl
  refine lv_aload_n C0.1 C0.2.1 d_WS_forward_0 rfl (lv_at hl 0 rfl) ?_
  refine gf_WS_20 C0 hB.1 0 rfl rfl d_WS_forward_1 ?_
  refine lv_iload_n C0.1 C0.2.1 d_WS_forward_4 rfl (lv_at hl 1 rfl) ?_
  refine lv_iconst (v := nI 1) C0.1 C0.2.1 d_WS_forward_5 (by decide) ?_
  refine cR (As := [.int (nI i), .int (nI 1)]) (rest := []) C0 (c_TH_isKind (nI i) 1 (by decide) hn hk) (q_WS_91 C0.2.2.2.2.1 rfl rfl ⟨Nat.le_of_ble_eq_true rfl, Nat.le_of_ble_eq_true rfl⟩) (ci := 1) (q0 := 1) rfl rfl rfl hB.1 hl.1 rfl rfl (Nat.le_of_ble_eq_true rfl) d_WS_forward_6 ⟨Nat.zero_le _, Nat.zero_le _⟩ ?_
  refine W.eq (g2 := F0 m 9 ls [.int (bI (isK n kd (nI i) 1))]) rfl ?_
  refine lv_if_eq (tgt := 17) C0.1 C0.2.1 d_WS_forward_9 (by decide) (fun c_9 => ?_) (fun c_9 => ?_)
  · exact absurd (fwd_1 (bI_0.mp c_9)) (by rw [hyes]; decide)
  · refine lv_iload_n C0.1 C0.2.1 d_WS_forward_12 rfl (lv_at hl 2 rfl) ?_
    refine lv_iload_n C0.1 C0.2.1 d_WS_forward_13 rfl (lv_at hl 3 rfl) ?_
    refine lv_icmp_ne (tgt := 19) C0.1 C0.2.1 d_WS_forward_14 (by decide) (fun c_14 => ?_) (fun c_14 => ?_)
    · refine lv_aload_n C0.1 C0.2.1 d_WS_forward_19 rfl (lv_at hl 0 rfl) ?_
      refine gf_WS_25 C0 hB.1 0 rfl rfl d_WS_forward_20 ?_
      refine lv_iload_n C0.1 C0.2.1 d_WS_forward_23 rfl (lv_at hl 1 rfl) ?_
      refine lv_iload_n C0.1 C0.2.1 d_WS_forward_24 rfl (lv_at hl 2 rfl) ?_
      refine cR (As := [.int (nI i), .int y]) (rest := []) C0 (c_PI_anyJoins (nI i) y hnp) (q_WS_115 C0.2.2.2.2.1 rfl rfl ⟨Nat.le_of_ble_eq_true rfl, Nat.le_of_ble_eq_true rfl⟩) (ci := 2) (q0 := 2) rfl rfl rfl hB.1 hl.1 rfl rfl (Nat.le_of_ble_eq_true rfl) d_WS_forward_25 ⟨Nat.zero_le _, Nat.zero_le _⟩ ?_
      refine W.eq (g2 := F0 m 28 ls [.int (bI (anyN (joinB ea eb (nI i) y) np))]) rfl ?_
      refine lv_if_eq (tgt := 43) C0.1 C0.2.1 d_WS_forward_28 (by decide) (fun c_28 => ?_) (fun c_28 => ?_)
      · exact absurd (fwd_3 (bI_0.mp c_28)) (by rw [hyes]; decide)
      · refine lv_aload_n C0.1 C0.2.1 d_WS_forward_31 rfl (lv_at hl 0 rfl) ?_
        refine gf_WS_25 C0 hB.1 0 rfl rfl d_WS_forward_32 ?_
        refine lv_iload_n C0.1 C0.2.1 d_WS_forward_35 rfl (lv_at hl 1 rfl) ?_
        refine lv_iload_n C0.1 C0.2.1 d_WS_forward_36 rfl (lv_at hl 3 rfl) ?_
        refine cR (As := [.int (nI i), .int z]) (rest := []) C0 (c_PI_anyJoins (nI i) z hnp) (q_WS_115 C0.2.2.2.2.1 rfl rfl ⟨Nat.le_of_ble_eq_true rfl, Nat.le_of_ble_eq_true rfl⟩) (ci := 2) (q0 := 2) rfl rfl rfl hB.1 hl.1 rfl rfl (Nat.le_of_ble_eq_true rfl) d_WS_forward_37 ⟨Nat.zero_le _, Nat.zero_le _⟩ ?_
        refine W.eq (g2 := F0 m 40 ls [.int (bI (anyN (joinB ea eb (nI i) z) np))]) rfl ?_
        refine lv_if_ne (tgt := 45) C0.1 C0.2.1 d_WS_forward_40 (by decide) (fun c_40 => ?_) (fun c_40 => ?_)
        · refine lv_aload_n C0.1 C0.2.1 d_WS_forward_45 rfl (lv_at hl 0 rfl) ?_
          refine gf_WS_20 C0 hB.1 0 rfl rfl d_WS_forward_46 ?_
          refine gf_WS_118 C0 hB.1 1 rfl rfl d_WS_forward_49 ?_
          refine lv_iload_n C0.1 C0.2.1 d_WS_forward_52 rfl (lv_at hl 1 rfl) ?_
          refine lv_iload_n C0.1 C0.2.1 d_WS_forward_53 rfl (lv_at hl 2 rfl) ?_
          refine ast_i (w' := (wW a t n kd em br (va_up ii i y) oo np ea eb li rn wa wn sT sP ak ap af tt ac ct rp rt rest L)) C0 hB 8 0 rfl rfl (by omega) (by decide) up_32 rfl d_WS_forward_54 (fun H locs hB => ?_)
          refine lv_aload_n C0.1 C0.2.1 d_WS_forward_55 rfl (lv_at hl 0 rfl) ?_
          refine gf_WS_20 C0 hB.1 0 rfl rfl d_WS_forward_56 ?_
          refine gf_WS_121 C0 hB.1 1 rfl rfl d_WS_forward_59 ?_
          refine lv_iload_n C0.1 C0.2.1 d_WS_forward_62 rfl (lv_at hl 1 rfl) ?_
          refine lv_iload_n C0.1 C0.2.1 d_WS_forward_63 rfl (lv_at hl 3 rfl) ?_
          refine ast_i (w' := (wW a t n kd em br (va_up ii i y) (va_up oo i z) np ea eb li rn wa wn sT sP ak ap af tt ac ct rp rt rest L)) C0 hB 9 0 rfl rfl (by omega) (by decide) up_32 rfl d_WS_forward_64 (fun H locs hB => ?_)
          refine lv_iconst (v := nI 1) C0.1 C0.2.1 d_WS_forward_65 (by decide) ?_
          exact eM_z C0 hr hlk (b := true) () rfl hB rfl (Nat.le_refl _) (Nat.le_refl _) d_WS_forward_66
        · exact absurd (fwd_4 (bI_0.mp c_40)) (by rw [hyes]; decide)
    · exact absurd (fwd_2 c_14) (by rw [hyes]; decide)
theorem told_out {x : Int32} (h0 : ¬ x = 0) (h1 : ¬ x = 1) (h2 : ¬ x = 2) (h3 : ¬ x = 3) (h4 : ¬ x = 4) (h5 : ¬ x = 5) (h6 : ¬ x = 6) : x.toInt < 0 ∨ 6 < x.toInt := by
  rcases Classical.em (x < 0) with h | h
  · have := Int32.lt_iff_toInt_lt.mp h
    rw [Int32.toInt_zero] at this
    exact Or.inl this
  · obtain ⟨j, hj, rfl⟩ := nI_of h
    rw [nI_toInt hj]
    refine Or.inr ?_
    rcases Nat.lt_or_ge 6 j with q | q
    · omega
    · exfalso
      rcases (show j = 0 ∨ j = 1 ∨ j = 2 ∨ j = 3 ∨ j = 4 ∨ j = 5 ∨ j = 6 by omega) with e | e | e | e | e | e | e <;> subst e
      · exact h0 rfl
      · exact h1 rfl
      · exact h2 rfl
      · exact h3 rfl
      · exact h4 rfl
      · exact h5 rfl
      · exact h6 rfl
set_option maxHeartbeats 4000000 in
set_option maxRecDepth 100000 in
theorem c_WS_told (x : Int32) (hn : n ≤ 48) (hnp : np ≤ 96) (hea : ∀ j, j < np → ea j < n) (heb : ∀ j, j < np → eb j < n) : Rd l y_WS_told w_WS_told ({ frames := 2, cells := 0, slots := 0, locals := 44 }) g classes (tyL t) [.ref (a 0), .int x] (wW a t n kd em br ii oo np ea eb li rn wa wn sT sP ak ap af tt ac ct rp rt rest L) (some (.int (toldF n np wn (cntN br 48) (cntN rn 96) (cntN em 48) (cntN (fun v => !anyN (endB ea eb v) np) n) x))) := by
  refine Rd.of (cc := b_WS_told) (maxL := 2) (ret := (some .int)) (own := R_WS) (by decide) rfl rfl (Nat.le_of_ble_eq_true rfl) ?_
  intro p e s m args below meth c C0 hr hlk hP ls hl
  have hl : lv_has ls 2 [(0, .ref (a 0)), (1, .int x)] := hl
  refine lv_iload_n C0.1 C0.2.1 d_WS_told_0 rfl (lv_at hl 1 rfl) ?_
  by_cases e0 : x = 0
  · subst e0
    refine lv_tableIn (off := 43) (tgt := 44) C0.1 C0.2.1 d_WS_told_1 (by decide) (by decide) (by decide) (by decide) ?_
    refine lv_aload_n C0.1 C0.2.1 d_WS_told_44 rfl (lv_at hl 0 rfl) ?_
    refine gf_WS_20 C0 hP 0 rfl rfl d_WS_told_45 ?_
    refine gf_WS_124 C0 hP 1 rfl rfl d_WS_told_48 ?_
    exact eR_i C0 hr hlk (by rfl) d_WS_told_51
  by_cases e1 : x = 1
  · subst e1
    refine lv_tableIn (off := 51) (tgt := 52) C0.1 C0.2.1 d_WS_told_1 (by decide) (by decide) (by decide) (by decide) ?_
    refine lv_aload_n C0.1 C0.2.1 d_WS_told_52 rfl (lv_at hl 0 rfl) ?_
    refine gf_WS_25 C0 hP 0 rfl rfl d_WS_told_53 ?_
    refine gf_WS_127 C0 hP 2 rfl rfl d_WS_told_56 ?_
    exact eR_i C0 hr hlk (by rfl) d_WS_told_59
  by_cases e2 : x = 2
  · subst e2
    refine lv_tableIn (off := 59) (tgt := 60) C0.1 C0.2.1 d_WS_told_1 (by decide) (by decide) (by decide) (by decide) ?_
    refine lv_aload_n C0.1 C0.2.1 d_WS_told_60 rfl (lv_at hl 0 rfl) ?_
    refine gf_WS_32 C0 hP 0 rfl rfl d_WS_told_61 ?_
    exact eR_i C0 hr hlk (by rfl) d_WS_told_64
  by_cases e3 : x = 3
  · subst e3
    refine lv_tableIn (off := 64) (tgt := 65) C0.1 C0.2.1 d_WS_told_1 (by decide) (by decide) (by decide) (by decide) ?_
    refine lv_aload_n C0.1 C0.2.1 d_WS_told_65 rfl (lv_at hl 0 rfl) ?_
    refine gf_WS_20 C0 hP 0 rfl rfl d_WS_told_66 ?_
    refine gf_WS_62 C0 hP 1 rfl rfl d_WS_told_69 ?_
    refine cRS (As := [.ref (a 7)]) (rest := []) C0 (c_WS_countMarks_br) (q_WS_128 C0.2.2.2.2.1 rfl rfl ⟨Nat.le_of_ble_eq_true rfl, Nat.le_of_ble_eq_true rfl⟩) hP hl.1 rfl rfl (Nat.le_of_ble_eq_true rfl) d_WS_told_72 ⟨Nat.zero_le _, Nat.zero_le _⟩ ?_
    refine W.eq (g2 := F0 m 75 ls [.int (nI (cntN br 48))]) rfl ?_
    exact eR_i C0 hr hlk (by rfl) d_WS_told_75
  by_cases e4 : x = 4
  · subst e4
    refine lv_tableIn (off := 75) (tgt := 76) C0.1 C0.2.1 d_WS_told_1 (by decide) (by decide) (by decide) (by decide) ?_
    refine lv_aload_n C0.1 C0.2.1 d_WS_told_76 rfl (lv_at hl 0 rfl) ?_
    refine gf_WS_25 C0 hP 0 rfl rfl d_WS_told_77 ?_
    refine gf_WS_54 C0 hP 2 rfl rfl d_WS_told_80 ?_
    refine cRS (As := [.ref (a 13)]) (rest := []) C0 (c_WS_countMarks_rn) (q_WS_128 C0.2.2.2.2.1 rfl rfl ⟨Nat.le_of_ble_eq_true rfl, Nat.le_of_ble_eq_true rfl⟩) hP hl.1 rfl rfl (Nat.le_of_ble_eq_true rfl) d_WS_told_83 ⟨Nat.zero_le _, Nat.zero_le _⟩ ?_
    refine W.eq (g2 := F0 m 86 ls [.int (nI (cntN rn 96))]) rfl ?_
    exact eR_i C0 hr hlk (by rfl) d_WS_told_86
  by_cases e5 : x = 5
  · subst e5
    refine lv_tableIn (off := 86) (tgt := 87) C0.1 C0.2.1 d_WS_told_1 (by decide) (by decide) (by decide) (by decide) ?_
    refine lv_aload_n C0.1 C0.2.1 d_WS_told_87 rfl (lv_at hl 0 rfl) ?_
    refine gf_WS_20 C0 hP 0 rfl rfl d_WS_told_88 ?_
    refine gf_WS_132 C0 hP 1 rfl rfl d_WS_told_91 ?_
    refine cRS (As := [.ref (a 6)]) (rest := []) C0 (c_WS_countMarks_em) (q_WS_128 C0.2.2.2.2.1 rfl rfl ⟨Nat.le_of_ble_eq_true rfl, Nat.le_of_ble_eq_true rfl⟩) hP hl.1 rfl rfl (Nat.le_of_ble_eq_true rfl) d_WS_told_94 ⟨Nat.zero_le _, Nat.zero_le _⟩ ?_
    refine W.eq (g2 := F0 m 97 ls [.int (nI (cntN em 48))]) rfl ?_
    exact eR_i C0 hr hlk (by rfl) d_WS_told_97
  by_cases e6 : x = 6
  · subst e6
    refine lv_tableIn (off := 97) (tgt := 98) C0.1 C0.2.1 d_WS_told_1 (by decide) (by decide) (by decide) (by decide) ?_
    refine lv_aload_n C0.1 C0.2.1 d_WS_told_98 rfl (lv_at hl 0 rfl) ?_
    refine cR (As := []) (rest := []) C0 (c_WS_countLooseThings hn hnp hea heb) (q_WS_135 C0.2.2.2.2.1 rfl rfl ⟨Nat.le_of_ble_eq_true rfl, Nat.le_of_ble_eq_true rfl⟩) (ci := 0) (q0 := 0) rfl rfl rfl hP hl.1 rfl rfl (Nat.le_of_ble_eq_true rfl) d_WS_told_99 ⟨Nat.zero_le _, Nat.zero_le _⟩ ?_
    refine W.eq (g2 := F0 m 102 ls [.int (nI (cntN (fun v => !anyN (endB ea eb v) np) n))]) rfl ?_
    exact eR_i C0 hr hlk (by rfl) d_WS_told_102
  refine lv_tableOut (tgt := 103) C0.1 C0.2.1 d_WS_told_1 (told_out e0 e1 e2 e3 e4 e5 e6) (by decide) ?_
  refine lv_iconst (v := -1) C0.1 C0.2.1 d_WS_told_103 (by decide) ?_
  exact eR_i C0 hr hlk (by unfold toldF; rw [if_neg e0, if_neg e1, if_neg e2, if_neg e3, if_neg e4, if_neg e5, if_neg e6]) d_WS_told_104
end CALLS2

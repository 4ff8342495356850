def blwR (kd : Nat → Nat) (pl tl : List Nat) (k : Int32) : Int32 := if hasB pl.length k = true then blw kd pl tl k.toNatClampNeg else -1
theorem blwR_j {kd : Nat → Nat} {pl tl : List Nat} {z : Nat} (hz : z < pl.length) (hl : pl.length < 48) : blwR kd pl tl (nI z) = blw kd pl tl z := by
  unfold blwR
  rw [hasB_nI (by omega), decide_eq_true hz, if_pos rfl, nI_clamp (by omega)]
theorem blwR_hit {kd : Nat → Nat} {pl tl : List Nat} {z : Nat} (hz : z < pl.length) (hl : pl.length < 48) (h : ∀ y, y < z → kd (tl.getD (pl.length - 1 - y) 0) ≠ 1 ∧ ¬ nI y = nI z) : blwR kd pl tl (nI z) = nI (pl.getD (pl.length - 1 - z) 0) := by
  rw [blwR_j hz hl]
  exact if_pos ⟨fun y hy => (h y hy).1, hz⟩
theorem blwR_all {kd : Nat → Nat} {pl tl : List Nat} {k : Int32} (hl : pl.length < 48) (h : ∀ y, y < pl.length → ¬ nI y = k) : blwR kd pl tl k = -1 := by
  unfold blwR
  by_cases q : hasB pl.length k = true
  · obtain ⟨j, hj, e⟩ := hasB_ex (by omega) q
    exact absurd e.symm (h j hj)
  · rw [if_neg q]
theorem blwR_pump {kd : Nat → Nat} {pl tl : List Nat} {k : Int32} {z : Nat} (hl : pl.length < 48) (h : ∀ y, y ≤ z → ¬ nI y = k) (hp : kd (tl.getD (pl.length - 1 - z) 0) = 1) : blwR kd pl tl k = -1 := by
  unfold blwR
  by_cases q : hasB pl.length k = true
  · obtain ⟨j, hj, e⟩ := hasB_ex (by omega) q
    have hzj : z < j := by
      rcases Nat.lt_or_ge z j with r | r
      · exact r
      · exact absurd e.symm (h j r)
    rw [if_pos q, e, nI_clamp (by omega)]
    exact if_neg (fun r => r.1 z hzj hp)
  · rw [if_neg q]
def sumP (li : Nat → Nat) (pl : List Nat) : Nat → Nat
  | 0 => 0
  | k + 1 => sumP li pl k + li (pl.getD k 0)
section MODEL5
variable {l : Launch} {g : va_G} {t : Nat → ClassId} {b : Nat → Nat} {n : Nat} {kd : Nat → Nat} {em : Nat → Bool} {br : Nat → Bool} {ii : Nat → Int32} {oo : Nat → Int32} {np : Nat} {ea : Nat → Nat} {eb : Nat → Nat} {li : Nat → Nat} {rn : Nat → Bool} {wp : Nat → Nat} {wl : Nat → Nat} {wf : Nat → Nat} {wt : Nat → Nat} {wn : Nat} {ct : Nat → Nat} {sT : Nat → Bool} {sP : Nat → Bool} {sa : Nat → Nat} {sb : Nat → Nat} {rest : va_W}
set_option maxHeartbeats 4000000 in
set_option maxRecDepth 100000 in
theorem c_MO_behind (i0 : Nat) (pl tl : List Nat) (hi0 : i0 < 64) (hwl : wl i0 = pl.length) (hwp : ∀ j, j < pl.length → wp (i0 * 48 + j) = pl.getD j 0) (hwf : wf i0 = tl.getD 0 0) (hpl : ∀ p ∈ pl, p < np) (htl : ∀ v ∈ tl, v < n) (hll : tl.length = pl.length + 1) (hl48 : pl.length < 48) (hch : ∀ j, j < pl.length → (tl.getD j 0 = ea (pl.getD j 0) ∧ tl.getD (j + 1) 0 = eb (pl.getD j 0)) ∨ (tl.getD j 0 = eb (pl.getD j 0) ∧ tl.getD (j + 1) 0 = ea (pl.getD j 0))) (hne : ∀ j, j < np → ea j ≠ eb j) (hn : n ≤ 48) (hnp : np ≤ 96) (k : Nat) (hk1 : k < pl.length) : Rd l y_MO_behind w_MO_behind ({ frames := 0, cells := 0, slots := 0, locals := 0 }) g classes (tyL t) [.ref (b 0), .int (nI i0), .int (nI k)] (mW b t n kd em br ii oo np ea eb li rn wp wl wf wt wn ct sT sP sa sb rest) (some (.int (nI (tl.getD (k + 1) 0)))) := by
  refine Rd.of (cc := b_MO_behind) (maxL := 6) (ret := (some .int)) (own := R_MO) (by decide) rfl rfl (Nat.le_of_ble_eq_true rfl) ?_
  intro p e s m args below meth c C0 hr hlk hP ls hl
  have hl : lv_has ls 6 [(0, .ref (b 0)), (1, .int (nI i0)), (2, .int (nI k))] := hl
  refine lv_aload_n C0.1 C0.2.1 d_MO_behind_0 rfl (lv_at hl 0 rfl) ?_
  refine gf_MO_45 C0 hP 0 rfl rfl d_MO_behind_1 ?_
  refine lv_iload_n C0.1 C0.2.1 d_MO_behind_4 rfl (lv_at hl 1 rfl) ?_
  refine ald_i C0 hP 12 0 rfl rfl (by omega) (by decide) d_MO_behind_5 ?_
  refine ti (show nI (wf i0) = nI (tl.getD 0 0) from by rw [hwf]) ?_
  refine lv_istore_n (lv' := [(3, .int (nI (tl.getD 0 0))), (0, .ref (b 0)), (1, .int (nI i0)), (2, .int (nI k))]) C0.1 C0.2.1 d_MO_behind_6 rfl hl (by decide) rfl (fun ls hl => ?_)
  refine lv_iconst (v := nI 0) C0.1 C0.2.1 d_MO_behind_7 (by decide) ?_
  refine lv_istore (lv' := [(4, .int (nI 0)), (3, .int (nI (tl.getD 0 0))), (0, .ref (b 0)), (1, .int (nI i0)), (2, .int (nI k))]) C0.1 C0.2.1 d_MO_behind_8 hl (by decide) rfl (fun ls hl => ?_)
  refine wlR (σ := Nat) (head := 10) (fun z_ => k + 1 - z_) (fun z_ => z_ ≤ k + 1) (fun z_ => [(0, .ref (b 0)), (1, .int (nI i0)), (2, .int (nI k)), (3, .int (nI (tl.getD z_ 0))), (4, .int (nI z_))]) ?_ 0 (show 0 ≤ k + 1 from Nat.zero_le _) (lv_sub hl [2, 3, 4, 1, 0] rfl)
  rintro j hi ih_10 ls hl
  have hi : j ≤ k + 1 := hi
  have hl : lv_has ls 6 [(0, .ref (b 0)), (1, .int (nI i0)), (2, .int (nI k)), (3, .int (nI (tl.getD j 0))), (4, .int (nI j))] := hl
  refine lv_iload C0.1 C0.2.1 d_MO_behind_10 (lv_at hl 4 rfl) ?_
  refine lv_iload_n C0.1 C0.2.1 d_MO_behind_12 rfl (lv_at hl 2 rfl) ?_
  refine lv_icmp_gt (tgt := 65) C0.1 C0.2.1 d_MO_behind_13 (by decide) (fun c_13 => ?_) (fun c_13 => ?_)
  · have hj : j = k + 1 := by have := (nI_ltI (by omega) (by omega)).mp c_13; omega
    refine lv_iload_n C0.1 C0.2.1 d_MO_behind_65 rfl (lv_at hl 3 rfl) ?_
    exact eR_i C0 hr hlk (by rw [hj]) d_MO_behind_66
  · have hj : j ≤ k := (nI_nlt' (by omega) (by omega)).mp c_13
    have hjl : j < pl.length := by omega
    have hpn := hpl _ (gD_mem hjl)
    have hcj := hch j hjl
    have hvt := htl _ (gD_mem (show j < tl.length by omega))
    have hvt1 := htl _ (gD_mem (show j + 1 < tl.length by omega))
    refine lv_aload_n C0.1 C0.2.1 d_MO_behind_16 rfl (lv_at hl 0 rfl) ?_
    refine gf_MO_39 C0 hP 0 rfl rfl d_MO_behind_17 ?_
    refine lv_iload_n C0.1 C0.2.1 d_MO_behind_20 rfl (lv_at hl 1 rfl) ?_
    refine lv_bipush (v := nI 48) C0.1 C0.2.1 d_MO_behind_21 (by decide) ?_
    refine lv_imul C0.1 C0.2.1 d_MO_behind_23 ?_
    refine ti (show (nI i0) * (nI 48) = nI (i0 * 48) from pk_mul _ _) ?_
    refine lv_iload C0.1 C0.2.1 d_MO_behind_24 (lv_at hl 4 rfl) ?_
    refine lv_iadd C0.1 C0.2.1 d_MO_behind_26 ?_
    refine ti (show (nI (i0 * 48)) + (nI j) = nI (i0 * 48 + j) from nI_add _ _) ?_
    refine ald_i C0 hP 10 0 rfl rfl (by omega) (by decide) d_MO_behind_27 ?_
    refine ti (show nI (wp (i0 * 48 + j)) = nI (pl.getD j 0) from by rw [hwp j hjl]) ?_
    refine lv_istore (lv' := [(5, .int (nI (pl.getD j 0))), (0, .ref (b 0)), (1, .int (nI i0)), (2, .int (nI k)), (3, .int (nI (tl.getD j 0))), (4, .int (nI j))]) C0.1 C0.2.1 d_MO_behind_28 hl (by decide) rfl (fun ls hl => ?_)
    refine wcut (g2 := F0 m 58 ls [.int (nI (tl.getD (j + 1) 0))]) ?_ (fun T58 => ?_)
    · refine lv_istore_n (lv' := [(3, .int (nI (tl.getD (j + 1) 0))), (5, .int (nI (pl.getD j 0))), (0, .ref (b 0)), (1, .int (nI i0)), (2, .int (nI k)), (4, .int (nI j))]) C0.1 C0.2.1 d_MO_behind_58 rfl hl (by decide) rfl (fun ls hl => ?_)
      refine lv_iinc (v := nI (j + 1)) (lv' := [(4, .int (nI (j + 1))), (3, .int (nI (tl.getD (j + 1) 0))), (5, .int (nI (pl.getD j 0))), (0, .ref (b 0)), (1, .int (nI i0)), (2, .int (nI k))]) C0.1 C0.2.1 d_MO_behind_59 hl (k := 5) rfl (inc1 _) (by decide) rfl (fun ls hl => ?_)
      refine lv_goto (tgt := 10) C0.1 C0.2.1 d_MO_behind_62 (by decide) ?_
      exact ih_10 (j + 1) (show (j + 1) ≤ k + 1 from by omega) (show k + 1 - (j + 1) < k + 1 - j from by omega) ls (lv_sub hl [3, 4, 5, 1, 0] rfl)
    · refine lv_aload_n C0.1 C0.2.1 d_MO_behind_30 rfl (lv_at hl 1 rfl) ?_
      refine gf_MO_26 C0 hP 0 rfl rfl d_MO_behind_31 ?_
      refine lv_iload C0.1 C0.2.1 d_MO_behind_34 (lv_at hl 0 rfl) ?_
      refine ald_i C0 hP 6 0 rfl rfl (by omega) (by decide) d_MO_behind_36 ?_
      refine lv_iload_n C0.1 C0.2.1 d_MO_behind_37 rfl (lv_at hl 4 rfl) ?_
      refine lv_icmp_ne (tgt := 51) C0.1 C0.2.1 d_MO_behind_38 (by decide) (fun c_38 => ?_) (fun c_38 => ?_)
      · refine lv_aload_n C0.1 C0.2.1 d_MO_behind_51 rfl (lv_at hl 1 rfl) ?_
        refine gf_MO_26 C0 hP 0 rfl rfl d_MO_behind_52 ?_
        refine lv_iload C0.1 C0.2.1 d_MO_behind_55 (lv_at hl 0 rfl) ?_
        refine ald_i C0 hP 6 0 rfl rfl (by omega) (by decide) d_MO_behind_57 ?_
        exact ti (show nI (ea (pl.getD j 0)) = nI (tl.getD (j + 1) 0) from by rcases hcj with q | q; exact absurd (by rw [q.1]) c_38; rw [q.2]) T58
      · refine lv_aload_n C0.1 C0.2.1 d_MO_behind_41 rfl (lv_at hl 1 rfl) ?_
        refine gf_MO_29 C0 hP 0 rfl rfl d_MO_behind_42 ?_
        refine lv_iload C0.1 C0.2.1 d_MO_behind_45 (lv_at hl 0 rfl) ?_
        refine ald_i C0 hP 7 0 rfl rfl (by omega) (by decide) d_MO_behind_47 ?_
        refine lv_goto (tgt := 58) C0.1 C0.2.1 d_MO_behind_48 (by decide) ?_
        exact ti (show nI (eb (pl.getD j 0)) = nI (tl.getD (j + 1) 0) from by rcases hcj with q | q; rw [q.2]; exact absurd ((nI_eq (by omega) (by omega)).mp c_38) (by have := hne _ hpn; omega)) T58
set_option maxHeartbeats 4000000 in
set_option maxRecDepth 100000 in
theorem c_MO_pipeOf_no (x : Int32) (hwn : wn ≤ 64) (hno : hasB wn x = false) (k : Int32) : Rd l y_MO_pipeOf w_MO_pipeOf ({ frames := 1, cells := 0, slots := 0, locals := 21 }) g classes (tyL t) [.ref (b 0), .int x, .int k] (mW b t n kd em br ii oo np ea eb li rn wp wl wf wt wn ct sT sP sa sb rest) (some (.int (-2))) := by
  refine Rd.of (cc := b_MO_pipeOf) (maxL := 3) (ret := (some .int)) (own := R_MO) (by decide) rfl rfl (Nat.le_of_ble_eq_true rfl) ?_
  intro p e s m args below meth c C0 hr hlk hP ls hl
  have hl : lv_has ls 3 [(0, .ref (b 0)), (1, .int x), (2, .int k)] := hl
  refine lv_aload_n C0.1 C0.2.1 d_MO_pipeOf_0 rfl (lv_at hl 0 rfl) ?_
  refine lv_iload_n C0.1 C0.2.1 d_MO_pipeOf_1 rfl (lv_at hl 1 rfl) ?_
  refine cR (As := [.int x]) (rest := []) C0 (c_MO_isWay x hwn) (q_MO_125 C0.2.2.2.2.1 rfl rfl ⟨Nat.le_of_ble_eq_true rfl, Nat.le_of_ble_eq_true rfl⟩) (ci := 5) (q0 := 0) rfl rfl rfl hP hl.1 rfl rfl (Nat.le_of_ble_eq_true rfl) d_MO_pipeOf_2 ⟨Nat.zero_le _, Nat.zero_le _⟩ ?_
  refine W.eq (g2 := F0 m 5 ls [.int (bI (hasB wn x))]) rfl ?_
  refine lv_if_ne (tgt := 13) C0.1 C0.2.1 d_MO_pipeOf_5 (by decide) (fun c_5 => ?_) (fun c_5 => ?_)
  · exact absurd hno (by rw [bI_n0.mp c_5]; decide)
  · refine lv_bipush (v := -2) C0.1 C0.2.1 d_MO_pipeOf_8 (by decide) ?_
    refine lv_goto (tgt := 42) C0.1 C0.2.1 d_MO_pipeOf_10 (by decide) ?_
    exact eR_i C0 hr hlk (rfl) d_MO_pipeOf_42
set_option maxHeartbeats 4000000 in
set_option maxRecDepth 100000 in
theorem c_MO_pipeOf (i0 : Nat) (pl tl : List Nat) (hi0 : i0 < 64) (hwl : wl i0 = pl.length) (hwp : ∀ j, j < pl.length → wp (i0 * 48 + j) = pl.getD j 0) (hwf : wf i0 = tl.getD 0 0) (hpl : ∀ p ∈ pl, p < np) (htl : ∀ v ∈ tl, v < n) (hll : tl.length = pl.length + 1) (hl48 : pl.length < 48) (hch : ∀ j, j < pl.length → (tl.getD j 0 = ea (pl.getD j 0) ∧ tl.getD (j + 1) 0 = eb (pl.getD j 0)) ∨ (tl.getD j 0 = eb (pl.getD j 0) ∧ tl.getD (j + 1) 0 = ea (pl.getD j 0))) (hne : ∀ j, j < np → ea j ≠ eb j) (hn : n ≤ 48) (hnp : np ≤ 96) (hwn : wn ≤ 64) (hiw : i0 < wn) (k : Int32) : Rd l y_MO_pipeOf w_MO_pipeOf ({ frames := 1, cells := 0, slots := 0, locals := 21 }) g classes (tyL t) [.ref (b 0), .int (nI i0), .int k] (mW b t n kd em br ii oo np ea eb li rn wp wl wf wt wn ct sT sP sa sb rest) (some (.int (pAt pl.length (fun j => nI (pl.getD j 0)) k))) := by
  refine Rd.of (cc := b_MO_pipeOf) (maxL := 3) (ret := (some .int)) (own := R_MO) (by decide) rfl rfl (Nat.le_of_ble_eq_true rfl) ?_
  intro p e s m args below meth c C0 hr hlk hP ls hl
  have hl : lv_has ls 3 [(0, .ref (b 0)), (1, .int (nI i0)), (2, .int k)] := hl
  refine lv_aload_n C0.1 C0.2.1 d_MO_pipeOf_0 rfl (lv_at hl 0 rfl) ?_
  refine lv_iload_n C0.1 C0.2.1 d_MO_pipeOf_1 rfl (lv_at hl 1 rfl) ?_
  refine cR (As := [.int (nI i0)]) (rest := []) C0 (c_MO_isWay (nI i0) hwn) (q_MO_125 C0.2.2.2.2.1 rfl rfl ⟨Nat.le_of_ble_eq_true rfl, Nat.le_of_ble_eq_true rfl⟩) (ci := 5) (q0 := 0) rfl rfl rfl hP hl.1 rfl rfl (Nat.le_of_ble_eq_true rfl) d_MO_pipeOf_2 ⟨Nat.zero_le _, Nat.zero_le _⟩ ?_
  refine W.eq (g2 := F0 m 5 ls [.int (bI (hasB wn (nI i0)))]) rfl ?_
  refine lv_if_ne (tgt := 13) C0.1 C0.2.1 d_MO_pipeOf_5 (by decide) (fun c_5 => ?_) (fun c_5 => ?_)
  · refine lv_iload_n C0.1 C0.2.1 d_MO_pipeOf_13 rfl (lv_at hl 2 rfl) ?_
    refine lv_if_lt (tgt := 27) C0.1 C0.2.1 d_MO_pipeOf_14 (by decide) (fun c_14 => ?_) (fun c_14 => ?_)
    · refine lv_iconst (v := -1) C0.1 C0.2.1 d_MO_pipeOf_27 (by decide) ?_
      refine lv_goto (tgt := 42) C0.1 C0.2.1 d_MO_pipeOf_28 (by decide) ?_
      exact eR_i C0 hr hlk (by rw [pAt_n (hasB_neg c_14)]) d_MO_pipeOf_42
    · refine lv_iload_n C0.1 C0.2.1 d_MO_pipeOf_17 rfl (lv_at hl 2 rfl) ?_
      refine lv_aload_n C0.1 C0.2.1 d_MO_pipeOf_18 rfl (lv_at hl 0 rfl) ?_
      refine gf_MO_42 C0 hP 0 rfl rfl d_MO_pipeOf_19 ?_
      refine lv_iload_n C0.1 C0.2.1 d_MO_pipeOf_22 rfl (lv_at hl 1 rfl) ?_
      refine ald_i C0 hP 11 0 rfl rfl (by omega) (by decide) d_MO_pipeOf_23 ?_
      refine ti (show nI (wl i0) = nI pl.length from by rw [hwl]) ?_
      refine lv_icmp_lt (tgt := 31) C0.1 C0.2.1 d_MO_pipeOf_24 (by decide) (fun c_24 => ?_) (fun c_24 => ?_)
      · obtain ⟨j, hj, rfl⟩ : ∃ j : Nat, j < pl.length ∧ k = nI j := hasB_ex (by omega) (hasB_t (by omega) c_14 (fun q => by have h1 := Int32.lt_iff_toInt_lt.mp c_24; have h2 := Int32.le_iff_toInt_le.mp q; omega))
        refine lv_aload_n C0.1 C0.2.1 d_MO_pipeOf_31 rfl (lv_at hl 0 rfl) ?_
        refine gf_MO_39 C0 hP 0 rfl rfl d_MO_pipeOf_32 ?_
        refine lv_iload_n C0.1 C0.2.1 d_MO_pipeOf_35 rfl (lv_at hl 1 rfl) ?_
        refine lv_bipush (v := nI 48) C0.1 C0.2.1 d_MO_pipeOf_36 (by decide) ?_
        refine lv_imul C0.1 C0.2.1 d_MO_pipeOf_38 ?_
        refine ti (show (nI i0) * (nI 48) = nI (i0 * 48) from pk_mul _ _) ?_
        refine lv_iload_n C0.1 C0.2.1 d_MO_pipeOf_39 rfl (lv_at hl 2 rfl) ?_
        refine lv_iadd C0.1 C0.2.1 d_MO_pipeOf_40 ?_
        refine ti (show (nI (i0 * 48)) + (nI j) = nI (i0 * 48 + j) from nI_add _ _) ?_
        refine ald_i C0 hP 10 0 rfl rfl (by omega) (by decide) d_MO_pipeOf_41 ?_
        refine ti (show nI (wp (i0 * 48 + j)) = nI (pl.getD j 0) from by rw [hwp j hj]) ?_
        exact eR_i C0 hr hlk (by rw [pAt_j hj (by omega)]) d_MO_pipeOf_42
      · refine lv_iconst (v := -1) C0.1 C0.2.1 d_MO_pipeOf_27 (by decide) ?_
        refine lv_goto (tgt := 42) C0.1 C0.2.1 d_MO_pipeOf_28 (by decide) ?_
        exact eR_i C0 hr hlk (by rw [pAt_n (hasB_ge (by omega) (by have h1 : ¬ k.toInt < (nI pl.length).toInt := fun q => c_24 (Int32.lt_iff_toInt_lt.mpr q); exact Int32.le_iff_toInt_le.mpr (by omega)))]) d_MO_pipeOf_42
  · exact absurd (bI_0.mp c_5) (by rw [hasB_nI (by omega), decide_eq_true hiw]; decide)
set_option maxHeartbeats 4000000 in
set_option maxRecDepth 100000 in
theorem c_MO_rest_no (x : Int32) (hwn : wn ≤ 64) (hno : hasB wn x = false) : Rd l y_MO_rest w_MO_rest ({ frames := 1, cells := 0, slots := 0, locals := 21 }) g classes (tyL t) [.ref (b 0), .int x] (mW b t n kd em br ii oo np ea eb li rn wp wl wf wt wn ct sT sP sa sb rest) (some (.long (-2))) := by
  refine Rd.of (cc := b_MO_rest) (maxL := 5) (ret := (some .long)) (own := R_MO) (by decide) rfl rfl (Nat.le_of_ble_eq_true rfl) ?_
  intro p e s m args below meth c C0 hr hlk hP ls hl
  have hl : lv_has ls 5 [(0, .ref (b 0)), (1, .int x)] := hl
  refine lv_aload_n C0.1 C0.2.1 d_MO_rest_0 rfl (lv_at hl 0 rfl) ?_
  refine lv_iload_n C0.1 C0.2.1 d_MO_rest_1 rfl (lv_at hl 1 rfl) ?_
  refine cR (As := [.int x]) (rest := []) C0 (c_MO_isWay x hwn) (q_MO_125 C0.2.2.2.2.1 rfl rfl ⟨Nat.le_of_ble_eq_true rfl, Nat.le_of_ble_eq_true rfl⟩) (ci := 5) (q0 := 0) rfl rfl rfl hP hl.1 rfl rfl (Nat.le_of_ble_eq_true rfl) d_MO_rest_2 ⟨Nat.zero_le _, Nat.zero_le _⟩ ?_
  refine W.eq (g2 := F0 m 5 ls [.int (bI (hasB wn x))]) rfl ?_
  refine lv_if_ne (tgt := 12) C0.1 C0.2.1 d_MO_rest_5 (by decide) (fun c_5 => ?_) (fun c_5 => ?_)
  · exact absurd hno (by rw [bI_n0.mp c_5]; decide)
  · refine lv_ldc2 C0.1 C0.2.1 C0.2.2.2.1 (C0.2.2.2.2.1 _ k_MO_131) d_MO_rest_8 ?_
    exact eR_l C0 hr hlk rfl d_MO_rest_11
set_option maxHeartbeats 4000000 in
set_option maxRecDepth 100000 in
theorem c_MO_rest (i0 : Nat) (pl tq : List Nat) (hi0 : i0 < 64) (hwl : wl i0 = pl.length) (hwp : ∀ j, j < pl.length → wp (i0 * 48 + j) = pl.getD j 0) (hwf : wf i0 = tq.getD 0 0) (hpl : ∀ p ∈ pl, p < np) (htl : ∀ v ∈ tq, v < n) (hll : tq.length = pl.length + 1) (hl48 : pl.length < 48) (hch : ∀ j, j < pl.length → (tq.getD j 0 = ea (pl.getD j 0) ∧ tq.getD (j + 1) 0 = eb (pl.getD j 0)) ∨ (tq.getD j 0 = eb (pl.getD j 0) ∧ tq.getD (j + 1) 0 = ea (pl.getD j 0))) (hne : ∀ j, j < np → ea j ≠ eb j) (hn : n ≤ 48) (hnp : np ≤ 96) (hwn : wn ≤ 64) (hiw : i0 < wn) : Rd l y_MO_rest w_MO_rest ({ frames := 1, cells := 0, slots := 0, locals := 21 }) g classes (tyL t) [.ref (b 0), .int (nI i0)] (mW b t n kd em br ii oo np ea eb li rn wp wl wf wt wn ct sT sP sa sb rest) (some (.long (lN (sumP li pl pl.length)))) := by
  refine Rd.of (cc := b_MO_rest) (maxL := 5) (ret := (some .long)) (own := R_MO) (by decide) rfl rfl (Nat.le_of_ble_eq_true rfl) ?_
  intro p e s m args below meth c C0 hr hlk hP ls hl
  have hl : lv_has ls 5 [(0, .ref (b 0)), (1, .int (nI i0))] := hl
  refine lv_aload_n C0.1 C0.2.1 d_MO_rest_0 rfl (lv_at hl 0 rfl) ?_
  refine lv_iload_n C0.1 C0.2.1 d_MO_rest_1 rfl (lv_at hl 1 rfl) ?_
  refine cR (As := [.int (nI i0)]) (rest := []) C0 (c_MO_isWay (nI i0) hwn) (q_MO_125 C0.2.2.2.2.1 rfl rfl ⟨Nat.le_of_ble_eq_true rfl, Nat.le_of_ble_eq_true rfl⟩) (ci := 5) (q0 := 0) rfl rfl rfl hP hl.1 rfl rfl (Nat.le_of_ble_eq_true rfl) d_MO_rest_2 ⟨Nat.zero_le _, Nat.zero_le _⟩ ?_
  refine W.eq (g2 := F0 m 5 ls [.int (bI (hasB wn (nI i0)))]) rfl ?_
  refine lv_if_ne (tgt := 12) C0.1 C0.2.1 d_MO_rest_5 (by decide) (fun c_5 => ?_) (fun c_5 => ?_)
  · refine lv_lconst (v := lN 0) C0.1 C0.2.1 d_MO_rest_12 rfl ?_
    refine lv_lstore_n (lv' := [(2, .long (lN 0)), (0, .ref (b 0)), (1, .int (nI i0))]) C0.1 C0.2.1 d_MO_rest_13 rfl hl (by decide) rfl (fun ls hl => ?_)
    refine lv_iconst (v := nI 0) C0.1 C0.2.1 d_MO_rest_14 (by decide) ?_
    refine lv_istore (lv' := [(4, .int (nI 0)), (2, .long (lN 0)), (0, .ref (b 0)), (1, .int (nI i0))]) C0.1 C0.2.1 d_MO_rest_15 hl (by decide) rfl (fun ls hl => ?_)
    refine wlR (σ := Nat) (head := 17) (fun z_ => pl.length - z_) (fun z_ => z_ ≤ pl.length) (fun z_ => [(0, .ref (b 0)), (1, .int (nI i0)), (2, .long (lN (sumP li pl z_))), (4, .int (nI z_))]) ?_ 0 (show 0 ≤ pl.length from Nat.zero_le _) (lv_sub hl [2, 3, 1, 0] rfl)
    rintro j hi ih_17 ls hl
    have hi : j ≤ pl.length := hi
    have hl : lv_has ls 5 [(0, .ref (b 0)), (1, .int (nI i0)), (2, .long (lN (sumP li pl j))), (4, .int (nI j))] := hl
    refine lv_iload C0.1 C0.2.1 d_MO_rest_17 (lv_at hl 3 rfl) ?_
    refine lv_aload_n C0.1 C0.2.1 d_MO_rest_19 rfl (lv_at hl 0 rfl) ?_
    refine gf_MO_42 C0 hP 0 rfl rfl d_MO_rest_20 ?_
    refine lv_iload_n C0.1 C0.2.1 d_MO_rest_23 rfl (lv_at hl 1 rfl) ?_
    refine ald_i C0 hP 11 0 rfl rfl (by omega) (by decide) d_MO_rest_24 ?_
    refine ti (show nI (wl i0) = nI pl.length from by rw [hwl]) ?_
    refine lv_icmp_ge (tgt := 54) C0.1 C0.2.1 d_MO_rest_25 (by decide) (fun c_25 => ?_) (fun c_25 => ?_)
    · have hj : j = pl.length := by have := (nI_leI (by omega) (by omega)).mp c_25; omega
      refine lv_lload_n C0.1 C0.2.1 d_MO_rest_54 rfl (lv_at hl 2 rfl) ?_
      exact eR_l C0 hr hlk (by rw [hj]) d_MO_rest_55
    · have hj : j < pl.length := (nI_nle' (by omega) (by omega)).mp c_25
      have hpn := hpl _ (gD_mem hj)
      refine lv_lload_n C0.1 C0.2.1 d_MO_rest_28 rfl (lv_at hl 2 rfl) ?_
      refine lv_aload_n C0.1 C0.2.1 d_MO_rest_29 rfl (lv_at hl 0 rfl) ?_
      refine gf_MO_32 C0 hP 0 rfl rfl d_MO_rest_30 ?_
      refine lv_aload_n C0.1 C0.2.1 d_MO_rest_33 rfl (lv_at hl 0 rfl) ?_
      refine gf_MO_39 C0 hP 0 rfl rfl d_MO_rest_34 ?_
      refine lv_iload_n C0.1 C0.2.1 d_MO_rest_37 rfl (lv_at hl 1 rfl) ?_
      refine lv_bipush (v := nI 48) C0.1 C0.2.1 d_MO_rest_38 (by decide) ?_
      refine lv_imul C0.1 C0.2.1 d_MO_rest_40 ?_
      refine ti (show (nI i0) * (nI 48) = nI (i0 * 48) from pk_mul _ _) ?_
      refine lv_iload C0.1 C0.2.1 d_MO_rest_41 (lv_at hl 3 rfl) ?_
      refine lv_iadd C0.1 C0.2.1 d_MO_rest_43 ?_
      refine ti (show (nI (i0 * 48)) + (nI j) = nI (i0 * 48 + j) from nI_add _ _) ?_
      refine ald_i C0 hP 10 0 rfl rfl (by omega) (by decide) d_MO_rest_44 ?_
      refine ti (show nI (wp (i0 * 48 + j)) = nI (pl.getD j 0) from by rw [hwp j hj]) ?_
      refine ald_l C0 hP 8 2 rfl rfl (by omega) (by decide) d_MO_rest_45 ?_
      refine lv_ladd C0.1 C0.2.1 d_MO_rest_46 ?_
      refine tl (show (lN (sumP li pl j)) + (lN (li (pl.getD j 0))) = lN (sumP li pl (j + 1)) from lN_add _ _) ?_
      refine lv_lstore_n (lv' := [(2, .long (lN (sumP li pl (j + 1)))), (0, .ref (b 0)), (1, .int (nI i0)), (4, .int (nI j))]) C0.1 C0.2.1 d_MO_rest_47 rfl hl (by decide) rfl (fun ls hl => ?_)
      refine lv_iinc (v := nI (j + 1)) (lv' := [(4, .int (nI (j + 1))), (2, .long (lN (sumP li pl (j + 1)))), (0, .ref (b 0)), (1, .int (nI i0))]) C0.1 C0.2.1 d_MO_rest_48 hl (k := 3) rfl (inc1 _) (by decide) rfl (fun ls hl => ?_)
      refine lv_goto (tgt := 17) C0.1 C0.2.1 d_MO_rest_51 (by decide) ?_
      exact ih_17 (j + 1) (show (j + 1) ≤ pl.length from by omega) (show pl.length - (j + 1) < pl.length - j from by omega) ls (lv_sub hl [2, 3, 1, 0] rfl)
  · exact absurd (bI_0.mp c_5) (by rw [hasB_nI (by omega), decide_eq_true hiw]; decide)
set_option maxHeartbeats 4000000 in
set_option maxRecDepth 100000 in
theorem c_MO_valveOf_no (x : Int32) (hwn : wn ≤ 64) (hno : hasB wn x = false) (k : Int32) : Rd l y_MO_valveOf w_MO_valveOf ({ frames := 1, cells := 0, slots := 0, locals := 25 }) g classes (tyL t) [.ref (b 0), .int x, .int k] (mW b t n kd em br ii oo np ea eb li rn wp wl wf wt wn ct sT sP sa sb rest) (some (.int (-2))) := by
  refine Rd.of (cc := b_MO_valveOf) (maxL := 6) (ret := (some .int)) (own := R_MO) (by decide) rfl rfl (Nat.le_of_ble_eq_true rfl) ?_
  intro p e s m args below meth c C0 hr hlk hP ls hl
  have hl : lv_has ls 6 [(0, .ref (b 0)), (1, .int x), (2, .int k)] := hl
  refine lv_aload_n C0.1 C0.2.1 d_MO_valveOf_0 rfl (lv_at hl 0 rfl) ?_
  refine lv_iload_n C0.1 C0.2.1 d_MO_valveOf_1 rfl (lv_at hl 1 rfl) ?_
  refine cR (As := [.int x]) (rest := []) C0 (c_MO_isWay x hwn) (q_MO_125 C0.2.2.2.2.1 rfl rfl ⟨Nat.le_of_ble_eq_true rfl, Nat.le_of_ble_eq_true rfl⟩) (ci := 5) (q0 := 0) rfl rfl rfl hP hl.1 rfl rfl (Nat.le_of_ble_eq_true rfl) d_MO_valveOf_2 ⟨Nat.zero_le _, Nat.zero_le _⟩ ?_
  refine W.eq (g2 := F0 m 5 ls [.int (bI (hasB wn x))]) rfl ?_
  refine lv_if_ne (tgt := 11) C0.1 C0.2.1 d_MO_valveOf_5 (by decide) (fun c_5 => ?_) (fun c_5 => ?_)
  · exact absurd hno (by rw [bI_n0.mp c_5]; decide)
  · refine lv_bipush (v := -2) C0.1 C0.2.1 d_MO_valveOf_8 (by decide) ?_
    exact eR_i C0 hr hlk (rfl) d_MO_valveOf_10
set_option maxHeartbeats 4000000 in
set_option maxRecDepth 100000 in
theorem c_MO_valveOf (i0 : Nat) (pl tl : List Nat) (hi0 : i0 < 64) (hwl : wl i0 = pl.length) (hwp : ∀ j, j < pl.length → wp (i0 * 48 + j) = pl.getD j 0) (hwf : wf i0 = tl.getD 0 0) (hpl : ∀ p ∈ pl, p < np) (htl : ∀ v ∈ tl, v < n) (hll : tl.length = pl.length + 1) (hl48 : pl.length < 48) (hch : ∀ j, j < pl.length → (tl.getD j 0 = ea (pl.getD j 0) ∧ tl.getD (j + 1) 0 = eb (pl.getD j 0)) ∨ (tl.getD j 0 = eb (pl.getD j 0) ∧ tl.getD (j + 1) 0 = ea (pl.getD j 0))) (hne : ∀ j, j < np → ea j ≠ eb j) (hn : n ≤ 48) (hnp : np ≤ 96) (hwn : wn ≤ 64) (hiw : i0 < wn) (k : Int32) (hk : ∀ j, kd j < 3) (hk00 : ¬ kd (tl.getD 0 0) = 2) : Rd l y_MO_valveOf w_MO_valveOf ({ frames := 1, cells := 0, slots := 0, locals := 25 }) g classes (tyL t) [.ref (b 0), .int (nI i0), .int k] (mW b t n kd em br ii oo np ea eb li rn wp wl wf wt wn ct sT sP sa sb rest) (some (.int (vOf kd tl k))) := by
  refine Rd.of (cc := b_MO_valveOf) (maxL := 6) (ret := (some .int)) (own := R_MO) (by decide) rfl rfl (Nat.le_of_ble_eq_true rfl) ?_
  intro p e s m args below meth c C0 hr hlk hP ls hl
  have hl : lv_has ls 6 [(0, .ref (b 0)), (1, .int (nI i0)), (2, .int k)] := hl
  refine lv_aload_n C0.1 C0.2.1 d_MO_valveOf_0 rfl (lv_at hl 0 rfl) ?_
  refine lv_iload_n C0.1 C0.2.1 d_MO_valveOf_1 rfl (lv_at hl 1 rfl) ?_
  refine cR (As := [.int (nI i0)]) (rest := []) C0 (c_MO_isWay (nI i0) hwn) (q_MO_125 C0.2.2.2.2.1 rfl rfl ⟨Nat.le_of_ble_eq_true rfl, Nat.le_of_ble_eq_true rfl⟩) (ci := 5) (q0 := 0) rfl rfl rfl hP hl.1 rfl rfl (Nat.le_of_ble_eq_true rfl) d_MO_valveOf_2 ⟨Nat.zero_le _, Nat.zero_le _⟩ ?_
  refine W.eq (g2 := F0 m 5 ls [.int (bI (hasB wn (nI i0)))]) rfl ?_
  refine lv_if_ne (tgt := 11) C0.1 C0.2.1 d_MO_valveOf_5 (by decide) (fun c_5 => ?_) (fun c_5 => ?_)
  · have e0 : ((tl.take (0 + 1)).filter (fun v => decide (kd v = 2))).length = 0 := by rw [flt_cnt (by omega), if_neg hk00]; rfl
    refine lv_iconst (v := nI ((tl.take (0 + 1)).filter (fun v => decide (kd v = 2))).length) C0.1 C0.2.1 d_MO_valveOf_11 (by rw [e0]; decide) ?_
    refine lv_istore_n (lv' := [(3, .int (nI ((tl.take (0 + 1)).filter (fun v => decide (kd v = 2))).length)), (0, .ref (b 0)), (1, .int (nI i0)), (2, .int k)]) C0.1 C0.2.1 d_MO_valveOf_12 rfl hl (by decide) rfl (fun ls hl => ?_)
    refine lv_iconst (v := nI 0) C0.1 C0.2.1 d_MO_valveOf_13 (by decide) ?_
    refine lv_istore (lv' := [(4, .int (nI 0)), (3, .int (nI ((tl.take (0 + 1)).filter (fun v => decide (kd v = 2))).length)), (0, .ref (b 0)), (1, .int (nI i0)), (2, .int k)]) C0.1 C0.2.1 d_MO_valveOf_14 hl (by decide) rfl (fun ls hl => ?_)
    refine wlR (σ := Nat) (head := 16) (fun z_ => pl.length - z_) (fun z_ => z_ ≤ pl.length ∧ ∀ z, z < ((tl.take (z_ + 1)).filter (fun v => decide (kd v = 2))).length → ¬ nI z = k) (fun z_ => [(0, .ref (b 0)), (1, .int (nI i0)), (2, .int k), (3, .int (nI ((tl.take (z_ + 1)).filter (fun v => decide (kd v = 2))).length)), (4, .int (nI z_))]) ?_ 0 (show 0 ≤ pl.length ∧ ∀ z, z < ((tl.take (0 + 1)).filter (fun v => decide (kd v = 2))).length → ¬ nI z = k from ⟨Nat.zero_le _, fun z h => by rw [e0] at h; exact absurd h (Nat.not_lt_zero _)⟩) (lv_sub hl [2, 3, 4, 1, 0] rfl)
    rintro j hi ih_16 ls hl
    have hi : j ≤ pl.length ∧ ∀ z, z < ((tl.take (j + 1)).filter (fun v => decide (kd v = 2))).length → ¬ nI z = k := hi
    obtain ⟨hi1, hi2⟩ := hi
    have hl : lv_has ls 6 [(0, .ref (b 0)), (1, .int (nI i0)), (2, .int k), (3, .int (nI ((tl.take (j + 1)).filter (fun v => decide (kd v = 2))).length)), (4, .int (nI j))] := hl
    refine lv_iload C0.1 C0.2.1 d_MO_valveOf_16 (lv_at hl 4 rfl) ?_
    refine lv_aload_n C0.1 C0.2.1 d_MO_valveOf_18 rfl (lv_at hl 0 rfl) ?_
    refine gf_MO_42 C0 hP 0 rfl rfl d_MO_valveOf_19 ?_
    refine lv_iload_n C0.1 C0.2.1 d_MO_valveOf_22 rfl (lv_at hl 1 rfl) ?_
    refine ald_i C0 hP 11 0 rfl rfl (by omega) (by decide) d_MO_valveOf_23 ?_
    refine ti (show nI (wl i0) = nI pl.length from by rw [hwl]) ?_
    refine lv_icmp_ge (tgt := 64) C0.1 C0.2.1 d_MO_valveOf_24 (by decide) (fun c_24 => ?_) (fun c_24 => ?_)
    · have hj : j = pl.length := by have := (nI_leI (by omega) (by omega)).mp c_24; omega
      refine lv_iconst (v := -1) C0.1 C0.2.1 d_MO_valveOf_64 (by decide) ?_
      exact eR_i C0 hr hlk (by rw [vOf_no (by omega) (by rw [hj, ← hll, List.take_length] at hi2; exact hi2)]) d_MO_valveOf_65
    · have hj : j < pl.length := (nI_nle' (by omega) (by omega)).mp c_24
      have hvt1 := htl _ (gD_mem (show j + 1 < tl.length by omega))
      refine lv_aload_n C0.1 C0.2.1 d_MO_valveOf_27 rfl (lv_at hl 0 rfl) ?_
      refine lv_iload_n C0.1 C0.2.1 d_MO_valveOf_28 rfl (lv_at hl 1 rfl) ?_
      refine lv_iload C0.1 C0.2.1 d_MO_valveOf_29 (lv_at hl 4 rfl) ?_
      refine cR (As := [.int (nI i0), .int (nI j)]) (rest := []) C0 (c_MO_behind i0 pl tl hi0 hwl hwp hwf hpl htl hll hl48 hch hne hn hnp j hj) (q_MO_128 C0.2.2.2.2.1 rfl rfl ⟨Nat.le_of_ble_eq_true rfl, Nat.le_of_ble_eq_true rfl⟩) (ci := 5) (q0 := 0) rfl rfl rfl hP hl.1 rfl rfl (Nat.le_of_ble_eq_true rfl) d_MO_valveOf_31 ⟨Nat.zero_le _, Nat.zero_le _⟩ ?_
      refine W.eq (g2 := F0 m 34 ls [.int (nI (tl.getD (j + 1) 0))]) rfl ?_
      refine lv_istore (lv' := [(5, .int (nI (tl.getD (j + 1) 0))), (0, .ref (b 0)), (1, .int (nI i0)), (2, .int k), (3, .int (nI ((tl.take (j + 1)).filter (fun v => decide (kd v = 2))).length)), (4, .int (nI j))]) C0.1 C0.2.1 d_MO_valveOf_34 hl (by decide) rfl (fun ls hl => ?_)
      refine lv_aload_n C0.1 C0.2.1 d_MO_valveOf_36 rfl (lv_at hl 1 rfl) ?_
      refine gf_MO_9 C0 hP 0 rfl rfl d_MO_valveOf_37 ?_
      refine lv_iload C0.1 C0.2.1 d_MO_valveOf_40 (lv_at hl 0 rfl) ?_
      refine ald_i C0 hP 1 0 rfl rfl (by omega) (by decide) d_MO_valveOf_42 ?_
      refine lv_iconst (v := nI 2) C0.1 C0.2.1 d_MO_valveOf_43 (by decide) ?_
      refine lv_icmp_ne (tgt := 58) C0.1 C0.2.1 d_MO_valveOf_44 (by decide) (fun c_44 => ?_) (fun c_44 => ?_)
      · have hkv : ¬ kd (tl.getD (j + 1) 0) = 2 := fun q => c_44 (by rw [q])
        have ec : ((tl.take (j + 1 + 1)).filter (fun v => decide (kd v = 2))).length = ((tl.take (j + 1)).filter (fun v => decide (kd v = 2))).length := by rw [flt_cnt (by omega), if_neg hkv]; rfl
        rw [← ec] at hl
        refine lv_iinc (v := nI (j + 1)) (lv' := [(4, .int (nI (j + 1))), (5, .int (nI (tl.getD (j + 1) 0))), (0, .ref (b 0)), (1, .int (nI i0)), (2, .int k), (3, .int (nI ((tl.take (j + 1 + 1)).filter (fun v => decide (kd v = 2))).length))]) C0.1 C0.2.1 d_MO_valveOf_58 hl (k := 5) rfl (inc1 _) (by decide) rfl (fun ls hl => ?_)
        refine lv_goto (tgt := 16) C0.1 C0.2.1 d_MO_valveOf_61 (by decide) ?_
        exact ih_16 (j + 1) (show (j + 1) ≤ pl.length ∧ ∀ z, z < ((tl.take ((j + 1) + 1)).filter (fun v => decide (kd v = 2))).length → ¬ nI z = k from ⟨by omega, fun z hz => hi2 z (by omega)⟩) (show pl.length - (j + 1) < pl.length - j from by omega) ls (lv_sub hl [2, 3, 4, 5, 0] rfl)
      · have hkv : kd (tl.getD (j + 1) 0) = 2 := (nI_eq (by have := hk (tl.getD (j + 1) 0); omega) (by decide)).mp c_44
        have ec : ((tl.take (j + 1 + 1)).filter (fun v => decide (kd v = 2))).length = ((tl.take (j + 1)).filter (fun v => decide (kd v = 2))).length + 1 := by rw [flt_cnt (by omega), if_pos hkv]
        refine lv_iload_n C0.1 C0.2.1 d_MO_valveOf_47 rfl (lv_at hl 4 rfl) ?_
        refine lv_iload_n C0.1 C0.2.1 d_MO_valveOf_48 rfl (lv_at hl 3 rfl) ?_
        refine lv_icmp_ne (tgt := 55) C0.1 C0.2.1 d_MO_valveOf_49 (by decide) (fun c_49 => ?_) (fun c_49 => ?_)
        · refine lv_iinc (v := nI ((tl.take (j + 1 + 1)).filter (fun v => decide (kd v = 2))).length) (lv' := [(3, .int (nI ((tl.take (j + 1 + 1)).filter (fun v => decide (kd v = 2))).length)), (5, .int (nI (tl.getD (j + 1) 0))), (0, .ref (b 0)), (1, .int (nI i0)), (2, .int k), (4, .int (nI j))]) C0.1 C0.2.1 d_MO_valveOf_55 hl (k := 4) rfl (by rw [ec]; exact inc1 _) (by decide) rfl (fun ls hl => ?_)
          refine lv_iinc (v := nI (j + 1)) (lv' := [(4, .int (nI (j + 1))), (3, .int (nI ((tl.take (j + 1 + 1)).filter (fun v => decide (kd v = 2))).length)), (5, .int (nI (tl.getD (j + 1) 0))), (0, .ref (b 0)), (1, .int (nI i0)), (2, .int k)]) C0.1 C0.2.1 d_MO_valveOf_58 hl (k := 5) rfl (inc1 _) (by decide) rfl (fun ls hl => ?_)
          refine lv_goto (tgt := 16) C0.1 C0.2.1 d_MO_valveOf_61 (by decide) ?_
          exact ih_16 (j + 1) (show (j + 1) ≤ pl.length ∧ ∀ z, z < ((tl.take ((j + 1) + 1)).filter (fun v => decide (kd v = 2))).length → ¬ nI z = k from ⟨by omega, fun z hz => by rcases Nat.lt_or_ge z (((tl.take (j + 1)).filter (fun v => decide (kd v = 2))).length) with q | q; exact hi2 z q; rw [show z = ((tl.take (j + 1)).filter (fun v => decide (kd v = 2))).length by omega]; exact c_49⟩) (show pl.length - (j + 1) < pl.length - j from by omega) ls (lv_sub hl [3, 4, 5, 1, 0] rfl)
        · refine lv_iload C0.1 C0.2.1 d_MO_valveOf_52 (lv_at hl 0 rfl) ?_
          exact eR_i C0 hr hlk (by rw [vOf_at (by omega) (show j + 1 < tl.length by omega) hkv c_49]) d_MO_valveOf_54
  · exact absurd (bI_0.mp c_5) (by rw [hasB_nI (by omega), decide_eq_true hiw]; decide)
set_option maxHeartbeats 4000000 in
set_option maxRecDepth 100000 in
theorem c_MO_blow_no (x : Int32) (hwn : wn ≤ 64) (hno : hasB wn x = false) (k : Int32) : Rd l y_MO_blow w_MO_blow ({ frames := 1, cells := 0, slots := 0, locals := 25 }) g classes (tyL t) [.ref (b 0), .int x, .int k] (mW b t n kd em br ii oo np ea eb li rn wp wl wf wt wn ct sT sP sa sb rest) (some (.int (-2))) := by
  refine Rd.of (cc := b_MO_blow) (maxL := 5) (ret := (some .int)) (own := R_MO) (by decide) rfl rfl (Nat.le_of_ble_eq_true rfl) ?_
  intro p e s m args below meth c C0 hr hlk hP ls hl
  have hl : lv_has ls 5 [(0, .ref (b 0)), (1, .int x), (2, .int k)] := hl
  refine lv_aload_n C0.1 C0.2.1 d_MO_blow_0 rfl (lv_at hl 0 rfl) ?_
  refine lv_iload_n C0.1 C0.2.1 d_MO_blow_1 rfl (lv_at hl 1 rfl) ?_
  refine cR (As := [.int x]) (rest := []) C0 (c_MO_isWay x hwn) (q_MO_125 C0.2.2.2.2.1 rfl rfl ⟨Nat.le_of_ble_eq_true rfl, Nat.le_of_ble_eq_true rfl⟩) (ci := 5) (q0 := 0) rfl rfl rfl hP hl.1 rfl rfl (Nat.le_of_ble_eq_true rfl) d_MO_blow_2 ⟨Nat.zero_le _, Nat.zero_le _⟩ ?_
  refine W.eq (g2 := F0 m 5 ls [.int (bI (hasB wn x))]) rfl ?_
  refine lv_if_ne (tgt := 11) C0.1 C0.2.1 d_MO_blow_5 (by decide) (fun c_5 => ?_) (fun c_5 => ?_)
  · exact absurd hno (by rw [bI_n0.mp c_5]; decide)
  · refine lv_bipush (v := -2) C0.1 C0.2.1 d_MO_blow_8 (by decide) ?_
    exact eR_i C0 hr hlk (rfl) d_MO_blow_10
set_option maxHeartbeats 4000000 in
set_option maxRecDepth 100000 in
theorem c_MO_blow (i0 : Nat) (pl tl : List Nat) (hi0 : i0 < 64) (hwl : wl i0 = pl.length) (hwp : ∀ j, j < pl.length → wp (i0 * 48 + j) = pl.getD j 0) (hwf : wf i0 = tl.getD 0 0) (hpl : ∀ p ∈ pl, p < np) (htl : ∀ v ∈ tl, v < n) (hll : tl.length = pl.length + 1) (hl48 : pl.length < 48) (hch : ∀ j, j < pl.length → (tl.getD j 0 = ea (pl.getD j 0) ∧ tl.getD (j + 1) 0 = eb (pl.getD j 0)) ∨ (tl.getD j 0 = eb (pl.getD j 0) ∧ tl.getD (j + 1) 0 = ea (pl.getD j 0))) (hne : ∀ j, j < np → ea j ≠ eb j) (hn : n ≤ 48) (hnp : np ≤ 96) (hwn : wn ≤ 64) (hiw : i0 < wn) (k : Int32) (hk : ∀ j, kd j < 3) (hp1 : 1 ≤ pl.length) : Rd l y_MO_blow w_MO_blow ({ frames := 1, cells := 0, slots := 0, locals := 25 }) g classes (tyL t) [.ref (b 0), .int (nI i0), .int k] (mW b t n kd em br ii oo np ea eb li rn wp wl wf wt wn ct sT sP sa sb rest) (some (.int (blwR kd pl tl k))) := by
  refine Rd.of (cc := b_MO_blow) (maxL := 5) (ret := (some .int)) (own := R_MO) (by decide) rfl rfl (Nat.le_of_ble_eq_true rfl) ?_
  intro p e s m args below meth c C0 hr hlk hP ls hl
  have hl : lv_has ls 5 [(0, .ref (b 0)), (1, .int (nI i0)), (2, .int k)] := hl
  refine lv_aload_n C0.1 C0.2.1 d_MO_blow_0 rfl (lv_at hl 0 rfl) ?_
  refine lv_iload_n C0.1 C0.2.1 d_MO_blow_1 rfl (lv_at hl 1 rfl) ?_
  refine cR (As := [.int (nI i0)]) (rest := []) C0 (c_MO_isWay (nI i0) hwn) (q_MO_125 C0.2.2.2.2.1 rfl rfl ⟨Nat.le_of_ble_eq_true rfl, Nat.le_of_ble_eq_true rfl⟩) (ci := 5) (q0 := 0) rfl rfl rfl hP hl.1 rfl rfl (Nat.le_of_ble_eq_true rfl) d_MO_blow_2 ⟨Nat.zero_le _, Nat.zero_le _⟩ ?_
  refine W.eq (g2 := F0 m 5 ls [.int (bI (hasB wn (nI i0)))]) rfl ?_
  refine lv_if_ne (tgt := 11) C0.1 C0.2.1 d_MO_blow_5 (by decide) (fun c_5 => ?_) (fun c_5 => ?_)
  · refine lv_aload_n C0.1 C0.2.1 d_MO_blow_11 rfl (lv_at hl 0 rfl) ?_
    refine gf_MO_42 C0 hP 0 rfl rfl d_MO_blow_12 ?_
    refine lv_iload_n C0.1 C0.2.1 d_MO_blow_15 rfl (lv_at hl 1 rfl) ?_
    refine ald_i C0 hP 11 0 rfl rfl (by omega) (by decide) d_MO_blow_16 ?_
    refine ti (show nI (wl i0) = nI pl.length from by rw [hwl]) ?_
    refine lv_iconst (v := nI 1) C0.1 C0.2.1 d_MO_blow_17 (by decide) ?_
    refine lv_isub C0.1 C0.2.1 d_MO_blow_18 ?_
    refine ti (show (nI pl.length) - (nI 1) = nI (pl.length - 1) from pk_sub (by omega)) ?_
    refine lv_istore_n (lv' := [(3, .int (nI (pl.length - 1))), (0, .ref (b 0)), (1, .int (nI i0)), (2, .int k)]) C0.1 C0.2.1 d_MO_blow_19 rfl hl (by decide) rfl (fun ls hl => ?_)
    refine lv_iconst (v := nI 0) C0.1 C0.2.1 d_MO_blow_20 (by decide) ?_
    refine lv_istore (lv' := [(4, .int (nI 0)), (3, .int (nI (pl.length - 1))), (0, .ref (b 0)), (1, .int (nI i0)), (2, .int k)]) C0.1 C0.2.1 d_MO_blow_21 hl (by decide) rfl (fun ls hl => ?_)
    refine wlR (σ := Nat × Int32) (head := 23) (fun z_ => pl.length + 1 - z_.1) (fun z_ => z_.1 ≤ pl.length ∧ ((z_.2 = nI (pl.length - 1 - z_.1) ∧ z_.1 < pl.length ∧ ∀ y, y < z_.1 → kd (tl.getD (pl.length - 1 - y) 0) ≠ 1 ∧ ¬ nI y = k) ∨ (z_.2 = -1 ∧ blwR kd pl tl k = -1))) (fun z_ => [(0, .ref (b 0)), (1, .int (nI i0)), (2, .int k), (3, .int z_.2), (4, .int (nI z_.1))]) ?_ (0, (nI (pl.length - 1))) (show 0 ≤ pl.length ∧ (((nI (pl.length - 1)) = nI (pl.length - 1 - 0) ∧ 0 < pl.length ∧ ∀ y, y < 0 → kd (tl.getD (pl.length - 1 - y) 0) ≠ 1 ∧ ¬ nI y = k) ∨ ((nI (pl.length - 1)) = -1 ∧ blwR kd pl tl k = -1)) from ⟨Nat.zero_le _, Or.inl ⟨rfl, by omega, fun y h => absurd h (Nat.not_lt_zero _)⟩⟩) (lv_sub hl [2, 3, 4, 1, 0] rfl)
    rintro ⟨z, ix⟩ hi ih_23 ls hl
    have hi : z ≤ pl.length ∧ ((ix = nI (pl.length - 1 - z) ∧ z < pl.length ∧ ∀ y, y < z → kd (tl.getD (pl.length - 1 - y) 0) ≠ 1 ∧ ¬ nI y = k) ∨ (ix = -1 ∧ blwR kd pl tl k = -1)) := hi
    obtain ⟨hi1, hi2⟩ := hi
    have hl : lv_has ls 5 [(0, .ref (b 0)), (1, .int (nI i0)), (2, .int k), (3, .int ix), (4, .int (nI z))] := hl
    refine lv_iload_n C0.1 C0.2.1 d_MO_blow_23 rfl (lv_at hl 3 rfl) ?_
    refine lv_if_lt (tgt := 80) C0.1 C0.2.1 d_MO_blow_24 (by decide) (fun c_24 => ?_) (fun c_24 => ?_)
    · have hV : blwR kd pl tl k = -1 := by
        rcases hi2 with ⟨h1, h2, h3⟩ | ⟨h2, h3⟩
        · rw [h1] at c_24; exact absurd c_24 (nI_pos (by omega))
        · exact h3
      refine lv_iconst (v := -1) C0.1 C0.2.1 d_MO_blow_80 (by decide) ?_
      exact eR_i C0 hr hlk (by rw [hV]) d_MO_blow_81
    · rcases hi2 with ⟨rfl, h2, h3⟩ | ⟨h2, h3⟩
      case inr => exact absurd (by rw [h2]; decide) c_24
      refine lv_iload C0.1 C0.2.1 d_MO_blow_27 (lv_at hl 4 rfl) ?_
      refine lv_iload_n C0.1 C0.2.1 d_MO_blow_29 rfl (lv_at hl 2 rfl) ?_
      refine lv_icmp_ne (tgt := 45) C0.1 C0.2.1 d_MO_blow_30 (by decide) (fun c_30 => ?_) (fun c_30 => ?_)
      · refine lv_iinc (v := nI (z + 1)) (lv' := [(4, .int (nI (z + 1))), (0, .ref (b 0)), (1, .int (nI i0)), (2, .int k), (3, .int (nI (pl.length - 1 - z)))]) C0.1 C0.2.1 d_MO_blow_45 hl (k := 4) rfl (inc1 _) (by decide) rfl (fun ls hl => ?_)
        refine lv_iload_n C0.1 C0.2.1 d_MO_blow_48 rfl (lv_at hl 4 rfl) ?_
        refine lv_if_le (tgt := 75) C0.1 C0.2.1 d_MO_blow_49 (by decide) (fun c_49 => ?_) (fun c_49 => ?_)
        · have hz0 : pl.length - 1 - z = 0 := by have := (nI_leI (b := 0) (by omega) (by decide)).mp c_49; omega
          have hV : blwR kd pl tl k = -1 := blwR_all hl48 (fun y hy => by rcases Nat.lt_or_ge y z with q | q; exact (h3 y q).2; rw [show y = z by omega]; exact c_30)
          refine lv_iconst (v := -1) C0.1 C0.2.1 d_MO_blow_75 (by decide) ?_
          refine lv_istore_n (lv' := [(3, .int (-1)), (4, .int (nI (z + 1))), (0, .ref (b 0)), (1, .int (nI i0)), (2, .int k)]) C0.1 C0.2.1 d_MO_blow_76 rfl hl (by decide) rfl (fun ls hl => ?_)
          refine lv_goto (tgt := 23) C0.1 C0.2.1 d_MO_blow_77 (by decide) ?_
          exact ih_23 ((z + 1), (-1)) (show (z + 1) ≤ pl.length ∧ (((-1) = nI (pl.length - 1 - (z + 1)) ∧ (z + 1) < pl.length ∧ ∀ y, y < (z + 1) → kd (tl.getD (pl.length - 1 - y) 0) ≠ 1 ∧ ¬ nI y = k) ∨ ((-1) = -1 ∧ blwR kd pl tl k = -1)) from ⟨by omega, Or.inr ⟨rfl, hV⟩⟩) (show pl.length + 1 - (z + 1) < pl.length + 1 - z from by omega) ls (lv_sub hl [2, 3, 4, 0, 1] rfl)
        · have hz0 : ¬ pl.length - 1 - z = 0 := fun q => c_49 (by rw [q]; decide)
          have hvt1 := htl _ (gD_mem (show pl.length - 1 - z < tl.length by omega))
          refine lv_aload_n C0.1 C0.2.1 d_MO_blow_52 rfl (lv_at hl 1 rfl) ?_
          refine gf_MO_9 C0 hP 0 rfl rfl d_MO_blow_53 ?_
          refine lv_aload_n C0.1 C0.2.1 d_MO_blow_56 rfl (lv_at hl 1 rfl) ?_
          refine lv_iload_n C0.1 C0.2.1 d_MO_blow_57 rfl (lv_at hl 2 rfl) ?_
          refine lv_iload_n C0.1 C0.2.1 d_MO_blow_58 rfl (lv_at hl 4 rfl) ?_
          refine lv_iconst (v := nI 1) C0.1 C0.2.1 d_MO_blow_59 (by decide) ?_
          refine lv_isub C0.1 C0.2.1 d_MO_blow_60 ?_
          refine ti (show (nI (pl.length - 1 - z)) - (nI 1) = nI (pl.length - 1 - z - 1) from pk_sub (by omega)) ?_
          refine cR (As := [.int (nI i0), .int (nI (pl.length - 1 - z - 1))]) (rest := [.ref (b 1)]) C0 (c_MO_behind i0 pl tl hi0 hwl hwp hwf hpl htl hll hl48 hch hne hn hnp (pl.length - 1 - z - 1) (by omega)) (q_MO_128 C0.2.2.2.2.1 rfl rfl ⟨Nat.le_of_ble_eq_true rfl, Nat.le_of_ble_eq_true rfl⟩) (ci := 5) (q0 := 0) rfl rfl rfl hP hl.1 rfl rfl (Nat.le_of_ble_eq_true rfl) d_MO_blow_61 ⟨Nat.zero_le _, Nat.zero_le _⟩ ?_
          refine W.eq (g2 := F0 m 64 ls [.int (nI (tl.getD (pl.length - 1 - z - 1 + 1) 0)), .ref (b 1)]) rfl ?_
          rw [show pl.length - 1 - z - 1 + 1 = pl.length - 1 - z by omega]
          refine ald_i C0 hP 1 0 rfl rfl (by omega) (by decide) d_MO_blow_64 ?_
          refine lv_iconst (v := nI 1) C0.1 C0.2.1 d_MO_blow_65 (by decide) ?_
          refine lv_icmp_eq (tgt := 75) C0.1 C0.2.1 d_MO_blow_66 (by decide) (fun c_66 => ?_) (fun c_66 => ?_)
          · have hV : blwR kd pl tl k = -1 := blwR_pump (z := z) hl48 (fun y hy => by rcases Nat.lt_or_ge y z with q | q; exact (h3 y q).2; rw [show y = z by omega]; exact c_30) ((nI_eq (by have := hk (tl.getD (pl.length - 1 - z) 0); omega) (by decide)).mp c_66)
            refine lv_iconst (v := -1) C0.1 C0.2.1 d_MO_blow_75 (by decide) ?_
            refine lv_istore_n (lv' := [(3, .int (-1)), (4, .int (nI (z + 1))), (0, .ref (b 0)), (1, .int (nI i0)), (2, .int k)]) C0.1 C0.2.1 d_MO_blow_76 rfl hl (by decide) rfl (fun ls hl => ?_)
            refine lv_goto (tgt := 23) C0.1 C0.2.1 d_MO_blow_77 (by decide) ?_
            exact ih_23 ((z + 1), (-1)) (show (z + 1) ≤ pl.length ∧ (((-1) = nI (pl.length - 1 - (z + 1)) ∧ (z + 1) < pl.length ∧ ∀ y, y < (z + 1) → kd (tl.getD (pl.length - 1 - y) 0) ≠ 1 ∧ ¬ nI y = k) ∨ ((-1) = -1 ∧ blwR kd pl tl k = -1)) from ⟨by omega, Or.inr ⟨rfl, hV⟩⟩) (show pl.length + 1 - (z + 1) < pl.length + 1 - z from by omega) ls (lv_sub hl [2, 3, 4, 0, 1] rfl)
          · have hkv : kd (tl.getD (pl.length - 1 - z) 0) ≠ 1 := fun q => c_66 (by rw [q])
            refine lv_iload_n C0.1 C0.2.1 d_MO_blow_69 rfl (lv_at hl 4 rfl) ?_
            refine lv_iconst (v := nI 1) C0.1 C0.2.1 d_MO_blow_70 (by decide) ?_
            refine lv_isub C0.1 C0.2.1 d_MO_blow_71 ?_
            refine ti (show (nI (pl.length - 1 - z)) - (nI 1) = nI (pl.length - 1 - (z + 1)) from by rw [pk_sub (by omega)]; congr 1) ?_
            refine lv_goto (tgt := 76) C0.1 C0.2.1 d_MO_blow_72 (by decide) ?_
            refine lv_istore_n (lv' := [(3, .int (nI (pl.length - 1 - (z + 1)))), (4, .int (nI (z + 1))), (0, .ref (b 0)), (1, .int (nI i0)), (2, .int k)]) C0.1 C0.2.1 d_MO_blow_76 rfl hl (by decide) rfl (fun ls hl => ?_)
            refine lv_goto (tgt := 23) C0.1 C0.2.1 d_MO_blow_77 (by decide) ?_
            exact ih_23 ((z + 1), (nI (pl.length - 1 - (z + 1)))) (show (z + 1) ≤ pl.length ∧ (((nI (pl.length - 1 - (z + 1))) = nI (pl.length - 1 - (z + 1)) ∧ (z + 1) < pl.length ∧ ∀ y, y < (z + 1) → kd (tl.getD (pl.length - 1 - y) 0) ≠ 1 ∧ ¬ nI y = k) ∨ ((nI (pl.length - 1 - (z + 1))) = -1 ∧ blwR kd pl tl k = -1)) from ⟨by omega, Or.inl ⟨rfl, by omega, lt_s h3 ⟨hkv, c_30⟩⟩⟩) (show pl.length + 1 - (z + 1) < pl.length + 1 - z from by omega) ls (lv_sub hl [2, 3, 4, 0, 1] rfl)
      · subst c_30
        refine lv_aload_n C0.1 C0.2.1 d_MO_blow_33 rfl (lv_at hl 0 rfl) ?_
        refine gf_MO_39 C0 hP 0 rfl rfl d_MO_blow_34 ?_
        refine lv_iload_n C0.1 C0.2.1 d_MO_blow_37 rfl (lv_at hl 1 rfl) ?_
        refine lv_bipush (v := nI 48) C0.1 C0.2.1 d_MO_blow_38 (by decide) ?_
        refine lv_imul C0.1 C0.2.1 d_MO_blow_40 ?_
        refine ti (show (nI i0) * (nI 48) = nI (i0 * 48) from pk_mul _ _) ?_
        refine lv_iload_n C0.1 C0.2.1 d_MO_blow_41 rfl (lv_at hl 3 rfl) ?_
        refine lv_iadd C0.1 C0.2.1 d_MO_blow_42 ?_
        refine ti (show (nI (i0 * 48)) + (nI (pl.length - 1 - z)) = nI (i0 * 48 + (pl.length - 1 - z)) from nI_add _ _) ?_
        refine ald_i C0 hP 10 0 rfl rfl (by omega) (by decide) d_MO_blow_43 ?_
        refine ti (show nI (wp (i0 * 48 + (pl.length - 1 - z))) = nI (pl.getD (pl.length - 1 - z) 0) from by rw [hwp _ (by omega)]) ?_
        exact eR_i C0 hr hlk (by rw [blwR_hit h2 hl48 h3]) d_MO_blow_44
  · exact absurd (bI_0.mp c_5) (by rw [hasB_nI (by omega), decide_eq_true hiw]; decide)
theorem lf_1 {f : Nat → Bool} {i : Nat} (h : (!anyN f i) = false) : (!anyN f (i + 1)) = false := by
  show (!(anyN f i || f i)) = false
  cases hq : anyN f i with
  | true => rfl
  | false => rw [hq] at h; cases h
theorem lf_2 {f : Nat → Bool} {i : Nat} (h : f i = true) : (!anyN f (i + 1)) = false := by
  show (!(anyN f i || f i)) = false
  rw [h, Bool.or_true]; rfl
theorem lf_3 {f : Nat → Bool} {i : Nat} (h : (!anyN f i) = true) (h2 : f i = false) : (!anyN f (i + 1)) = true := by
  show (!(anyN f i || f i)) = true
  rw [h2, Bool.or_false]; exact h
set_option maxHeartbeats 4000000 in
set_option maxRecDepth 100000 in
theorem c_MO_told (x : Int32) (hn : n ≤ 48) (hnp : np ≤ 96) (hk : ∀ j, kd j < 3) (hea : ∀ j, j < np → ea j < n) (heb : ∀ j, j < np → eb j < n) : Rd l y_MO_told w_MO_told ({ frames := 0, cells := 0, slots := 0, locals := 0 }) g classes (tyL t) [.ref (b 0), .int x] (mW b t n kd em br ii oo np ea eb li rn wp wl wf wt wn ct sT sP sa sb rest) (some (.int (toldF n np wn (cntN br n) (cntN rn np) (cntN (fun v => decide (kd v = 0) && em v) n) (cntN (fun v => !anyN (endB ea eb v) np) n) x))) := by
  refine Rd.of (cc := b_MO_told) (maxL := 6) (ret := (some .int)) (own := R_MO) (by decide) rfl rfl (Nat.le_of_ble_eq_true rfl) ?_
  intro p e s m args below meth c C0 hr hlk hP ls hl
  have hl : lv_has ls 6 [(0, .ref (b 0)), (1, .int x)] := hl
  refine lv_iconst (v := nI 0) C0.1 C0.2.1 d_MO_told_0 (by decide) ?_
  refine lv_istore_n (lv' := [(2, .int (nI 0)), (0, .ref (b 0)), (1, .int x)]) C0.1 C0.2.1 d_MO_told_1 rfl hl (by decide) rfl (fun ls hl => ?_)
  refine lv_iload_n C0.1 C0.2.1 d_MO_told_2 rfl (lv_at hl 2 rfl) ?_
  by_cases e0 : x = 0
  · subst e0
    refine lv_tableIn (off := 41) (tgt := 44) C0.1 C0.2.1 d_MO_told_3 (by decide) (by decide) (by decide) (by decide) ?_
    refine lv_aload_n C0.1 C0.2.1 d_MO_told_44 rfl (lv_at hl 1 rfl) ?_
    refine gf_MO_66 C0 hP 0 rfl rfl d_MO_told_45 ?_
    exact eR_i C0 hr hlk (by rfl) d_MO_told_48
  by_cases e1 : x = 1
  · subst e1
    refine lv_tableIn (off := 46) (tgt := 49) C0.1 C0.2.1 d_MO_told_3 (by decide) (by decide) (by decide) (by decide) ?_
    refine lv_aload_n C0.1 C0.2.1 d_MO_told_49 rfl (lv_at hl 1 rfl) ?_
    refine gf_MO_80 C0 hP 0 rfl rfl d_MO_told_50 ?_
    exact eR_i C0 hr hlk (by rfl) d_MO_told_53
  by_cases e2 : x = 2
  · subst e2
    refine lv_tableIn (off := 51) (tgt := 54) C0.1 C0.2.1 d_MO_told_3 (by decide) (by decide) (by decide) (by decide) ?_
    refine lv_aload_n C0.1 C0.2.1 d_MO_told_54 rfl (lv_at hl 1 rfl) ?_
    refine gf_MO_116 C0 hP 0 rfl rfl d_MO_told_55 ?_
    exact eR_i C0 hr hlk (by rfl) d_MO_told_58
  by_cases e3 : x = 3
  · subst e3
    refine lv_tableIn (off := 56) (tgt := 59) C0.1 C0.2.1 d_MO_told_3 (by decide) (by decide) (by decide) (by decide) ?_
    refine lv_iconst (v := nI 0) C0.1 C0.2.1 d_MO_told_59 (by decide) ?_
    refine lv_istore_n (lv' := [(3, .int (nI 0)), (2, .int (nI 0)), (0, .ref (b 0)), (1, .int 3)]) C0.1 C0.2.1 d_MO_told_60 rfl hl (by decide) rfl (fun ls hl => ?_)
    refine wlR (σ := Nat) (head := 61) (fun z_ => n - z_) (fun z_ => z_ ≤ n) (fun z_ => [(0, .ref (b 0)), (2, .int (nI (cntN br z_))), (3, .int (nI z_))]) ?_ 0 (show 0 ≤ n from Nat.zero_le _) (lv_sub hl [2, 1, 0] rfl)
    rintro j hi ih_61 ls hl
    have hi : j ≤ n := hi
    have hl : lv_has ls 6 [(0, .ref (b 0)), (2, .int (nI (cntN br j))), (3, .int (nI j))] := hl
    refine lv_iload_n C0.1 C0.2.1 d_MO_told_61 rfl (lv_at hl 2 rfl) ?_
    refine lv_aload_n C0.1 C0.2.1 d_MO_told_62 rfl (lv_at hl 0 rfl) ?_
    refine gf_MO_66 C0 hP 0 rfl rfl d_MO_told_63 ?_
    refine lv_icmp_ge (tgt := 92) C0.1 C0.2.1 d_MO_told_66 (by decide) (fun c_66 => ?_) (fun c_66 => ?_)
    · have hj : j = n := by have := (nI_leI (by omega) (by omega)).mp c_66; omega
      refine lv_iload_n C0.1 C0.2.1 d_MO_told_92 rfl (lv_at hl 1 rfl) ?_
      exact eR_i C0 hr hlk (by rw [hj]; rfl) d_MO_told_93
    · have hj : j < n := (nI_nle' (by omega) (by omega)).mp c_66
      refine lv_iload_n C0.1 C0.2.1 d_MO_told_69 rfl (lv_at hl 1 rfl) ?_
      refine lv_aload_n C0.1 C0.2.1 d_MO_told_70 rfl (lv_at hl 0 rfl) ?_
      refine gf_MO_17 C0 hP 0 rfl rfl d_MO_told_71 ?_
      refine lv_iload_n C0.1 C0.2.1 d_MO_told_74 rfl (lv_at hl 2 rfl) ?_
      refine ald_z C0 hP 3 1 rfl rfl (by omega) (by decide) d_MO_told_75 ?_
      refine lv_if_eq (tgt := 83) C0.1 C0.2.1 d_MO_told_76 (by decide) (fun c_76 => ?_) (fun c_76 => ?_)
      · refine lv_iconst (v := nI 0) C0.1 C0.2.1 d_MO_told_83 (by decide) ?_
        refine lv_iadd C0.1 C0.2.1 d_MO_told_84 ?_
        refine ti (show (nI (cntN br j)) + (nI 0) = nI (cntN br (j + 1)) from by rw [nI_add, Nat.add_zero]; congr 1; exact (cntN_n (f := br) (bI_0.mp c_76)).symm) ?_
        refine lv_istore_n (lv' := [(2, .int (nI (cntN br (j + 1)))), (0, .ref (b 0)), (3, .int (nI j))]) C0.1 C0.2.1 d_MO_told_85 rfl hl (by decide) rfl (fun ls hl => ?_)
        refine lv_iinc (v := nI (j + 1)) (lv' := [(3, .int (nI (j + 1))), (2, .int (nI (cntN br (j + 1)))), (0, .ref (b 0))]) C0.1 C0.2.1 d_MO_told_86 hl (k := 2) rfl (inc1 _) (by decide) rfl (fun ls hl => ?_)
        refine lv_goto (tgt := 61) C0.1 C0.2.1 d_MO_told_89 (by decide) ?_
        exact ih_61 (j + 1) (show (j + 1) ≤ n from by omega) (show n - (j + 1) < n - j from by omega) ls (lv_sub hl [2, 1, 0] rfl)
      · refine lv_iconst (v := nI 1) C0.1 C0.2.1 d_MO_told_79 (by decide) ?_
        refine lv_goto (tgt := 84) C0.1 C0.2.1 d_MO_told_80 (by decide) ?_
        refine lv_iadd C0.1 C0.2.1 d_MO_told_84 ?_
        refine ti (show (nI (cntN br j)) + (nI 1) = nI (cntN br (j + 1)) from by rw [nI_add]; congr 1; exact (cntN_t (f := br) (bI_n0.mp c_76)).symm) ?_
        refine lv_istore_n (lv' := [(2, .int (nI (cntN br (j + 1)))), (0, .ref (b 0)), (3, .int (nI j))]) C0.1 C0.2.1 d_MO_told_85 rfl hl (by decide) rfl (fun ls hl => ?_)
        refine lv_iinc (v := nI (j + 1)) (lv' := [(3, .int (nI (j + 1))), (2, .int (nI (cntN br (j + 1)))), (0, .ref (b 0))]) C0.1 C0.2.1 d_MO_told_86 hl (k := 2) rfl (inc1 _) (by decide) rfl (fun ls hl => ?_)
        refine lv_goto (tgt := 61) C0.1 C0.2.1 d_MO_told_89 (by decide) ?_
        exact ih_61 (j + 1) (show (j + 1) ≤ n from by omega) (show n - (j + 1) < n - j from by omega) ls (lv_sub hl [2, 1, 0] rfl)
  by_cases e4 : x = 4
  · subst e4
    refine lv_tableIn (off := 91) (tgt := 94) C0.1 C0.2.1 d_MO_told_3 (by decide) (by decide) (by decide) (by decide) ?_
    refine lv_iconst (v := nI 0) C0.1 C0.2.1 d_MO_told_94 (by decide) ?_
    refine lv_istore_n (lv' := [(3, .int (nI 0)), (2, .int (nI 0)), (0, .ref (b 0)), (1, .int 4)]) C0.1 C0.2.1 d_MO_told_95 rfl hl (by decide) rfl (fun ls hl => ?_)
    refine wlR (σ := Nat) (head := 96) (fun z_ => np - z_) (fun z_ => z_ ≤ np) (fun z_ => [(0, .ref (b 0)), (2, .int (nI (cntN rn z_))), (3, .int (nI z_))]) ?_ 0 (show 0 ≤ np from Nat.zero_le _) (lv_sub hl [2, 1, 0] rfl)
    rintro j hi ih_96 ls hl
    have hi : j ≤ np := hi
    have hl : lv_has ls 6 [(0, .ref (b 0)), (2, .int (nI (cntN rn j))), (3, .int (nI j))] := hl
    refine lv_iload_n C0.1 C0.2.1 d_MO_told_96 rfl (lv_at hl 2 rfl) ?_
    refine lv_aload_n C0.1 C0.2.1 d_MO_told_97 rfl (lv_at hl 0 rfl) ?_
    refine gf_MO_80 C0 hP 0 rfl rfl d_MO_told_98 ?_
    refine lv_icmp_ge (tgt := 127) C0.1 C0.2.1 d_MO_told_101 (by decide) (fun c_101 => ?_) (fun c_101 => ?_)
    · have hj : j = np := by have := (nI_leI (by omega) (by omega)).mp c_101; omega
      refine lv_iload_n C0.1 C0.2.1 d_MO_told_127 rfl (lv_at hl 1 rfl) ?_
      exact eR_i C0 hr hlk (by rw [hj]; rfl) d_MO_told_128
    · have hj : j < np := (nI_nle' (by omega) (by omega)).mp c_101
      refine lv_iload_n C0.1 C0.2.1 d_MO_told_104 rfl (lv_at hl 1 rfl) ?_
      refine lv_aload_n C0.1 C0.2.1 d_MO_told_105 rfl (lv_at hl 0 rfl) ?_
      refine gf_MO_36 C0 hP 0 rfl rfl d_MO_told_106 ?_
      refine lv_iload_n C0.1 C0.2.1 d_MO_told_109 rfl (lv_at hl 2 rfl) ?_
      refine ald_z C0 hP 9 1 rfl rfl (by omega) (by decide) d_MO_told_110 ?_
      refine lv_if_eq (tgt := 118) C0.1 C0.2.1 d_MO_told_111 (by decide) (fun c_111 => ?_) (fun c_111 => ?_)
      · refine lv_iconst (v := nI 0) C0.1 C0.2.1 d_MO_told_118 (by decide) ?_
        refine lv_iadd C0.1 C0.2.1 d_MO_told_119 ?_
        refine ti (show (nI (cntN rn j)) + (nI 0) = nI (cntN rn (j + 1)) from by rw [nI_add, Nat.add_zero]; congr 1; exact (cntN_n (f := rn) (bI_0.mp c_111)).symm) ?_
        refine lv_istore_n (lv' := [(2, .int (nI (cntN rn (j + 1)))), (0, .ref (b 0)), (3, .int (nI j))]) C0.1 C0.2.1 d_MO_told_120 rfl hl (by decide) rfl (fun ls hl => ?_)
        refine lv_iinc (v := nI (j + 1)) (lv' := [(3, .int (nI (j + 1))), (2, .int (nI (cntN rn (j + 1)))), (0, .ref (b 0))]) C0.1 C0.2.1 d_MO_told_121 hl (k := 2) rfl (inc1 _) (by decide) rfl (fun ls hl => ?_)
        refine lv_goto (tgt := 96) C0.1 C0.2.1 d_MO_told_124 (by decide) ?_
        exact ih_96 (j + 1) (show (j + 1) ≤ np from by omega) (show np - (j + 1) < np - j from by omega) ls (lv_sub hl [2, 1, 0] rfl)
      · refine lv_iconst (v := nI 1) C0.1 C0.2.1 d_MO_told_114 (by decide) ?_
        refine lv_goto (tgt := 119) C0.1 C0.2.1 d_MO_told_115 (by decide) ?_
        refine lv_iadd C0.1 C0.2.1 d_MO_told_119 ?_
        refine ti (show (nI (cntN rn j)) + (nI 1) = nI (cntN rn (j + 1)) from by rw [nI_add]; congr 1; exact (cntN_t (f := rn) (bI_n0.mp c_111)).symm) ?_
        refine lv_istore_n (lv' := [(2, .int (nI (cntN rn (j + 1)))), (0, .ref (b 0)), (3, .int (nI j))]) C0.1 C0.2.1 d_MO_told_120 rfl hl (by decide) rfl (fun ls hl => ?_)
        refine lv_iinc (v := nI (j + 1)) (lv' := [(3, .int (nI (j + 1))), (2, .int (nI (cntN rn (j + 1)))), (0, .ref (b 0))]) C0.1 C0.2.1 d_MO_told_121 hl (k := 2) rfl (inc1 _) (by decide) rfl (fun ls hl => ?_)
        refine lv_goto (tgt := 96) C0.1 C0.2.1 d_MO_told_124 (by decide) ?_
        exact ih_96 (j + 1) (show (j + 1) ≤ np from by omega) (show np - (j + 1) < np - j from by omega) ls (lv_sub hl [2, 1, 0] rfl)
  by_cases e5 : x = 5
  · subst e5
    refine lv_tableIn (off := 126) (tgt := 129) C0.1 C0.2.1 d_MO_told_3 (by decide) (by decide) (by decide) (by decide) ?_
    refine lv_iconst (v := nI 0) C0.1 C0.2.1 d_MO_told_129 (by decide) ?_
    refine lv_istore_n (lv' := [(3, .int (nI 0)), (2, .int (nI 0)), (0, .ref (b 0)), (1, .int 5)]) C0.1 C0.2.1 d_MO_told_130 rfl hl (by decide) rfl (fun ls hl => ?_)
    refine wlR (σ := Nat) (head := 131) (fun z_ => n - z_) (fun z_ => z_ ≤ n) (fun z_ => [(0, .ref (b 0)), (2, .int (nI (cntN (fun v => decide (kd v = 0) && em v) z_))), (3, .int (nI z_))]) ?_ 0 (show 0 ≤ n from Nat.zero_le _) (lv_sub hl [2, 1, 0] rfl)
    rintro j hi ih_131 ls hl
    have hi : j ≤ n := hi
    have hl : lv_has ls 6 [(0, .ref (b 0)), (2, .int (nI (cntN (fun v => decide (kd v = 0) && em v) j))), (3, .int (nI j))] := hl
    refine lv_iload_n C0.1 C0.2.1 d_MO_told_131 rfl (lv_at hl 2 rfl) ?_
    refine lv_aload_n C0.1 C0.2.1 d_MO_told_132 rfl (lv_at hl 0 rfl) ?_
    refine gf_MO_66 C0 hP 0 rfl rfl d_MO_told_133 ?_
    refine lv_icmp_ge (tgt := 171) C0.1 C0.2.1 d_MO_told_136 (by decide) (fun c_136 => ?_) (fun c_136 => ?_)
    · have hj : j = n := by have := (nI_leI (by omega) (by omega)).mp c_136; omega
      refine lv_iload_n C0.1 C0.2.1 d_MO_told_171 rfl (lv_at hl 1 rfl) ?_
      exact eR_i C0 hr hlk (by rw [hj]; rfl) d_MO_told_172
    · have hj : j < n := (nI_nle' (by omega) (by omega)).mp c_136
      refine lv_iload_n C0.1 C0.2.1 d_MO_told_139 rfl (lv_at hl 1 rfl) ?_
      refine lv_aload_n C0.1 C0.2.1 d_MO_told_140 rfl (lv_at hl 0 rfl) ?_
      refine gf_MO_9 C0 hP 0 rfl rfl d_MO_told_141 ?_
      refine lv_iload_n C0.1 C0.2.1 d_MO_told_144 rfl (lv_at hl 2 rfl) ?_
      refine ald_i C0 hP 1 0 rfl rfl (by omega) (by decide) d_MO_told_145 ?_
      refine lv_if_ne (tgt := 162) C0.1 C0.2.1 d_MO_told_146 (by decide) (fun c_146 => ?_) (fun c_146 => ?_)
      · refine lv_iconst (v := nI 0) C0.1 C0.2.1 d_MO_told_162 (by decide) ?_
        refine lv_iadd C0.1 C0.2.1 d_MO_told_163 ?_
        refine ti (show (nI (cntN (fun v => decide (kd v = 0) && em v) j)) + (nI 0) = nI (cntN (fun v => decide (kd v = 0) && em v) (j + 1)) from by rw [nI_add, Nat.add_zero]; congr 1; exact (cntN_n (f := (fun v => decide (kd v = 0) && em v)) (by rw [decide_eq_false (fun q => c_146 (by rw [q]; rfl))]; rfl)).symm) ?_
        refine lv_istore_n (lv' := [(2, .int (nI (cntN (fun v => decide (kd v = 0) && em v) (j + 1)))), (0, .ref (b 0)), (3, .int (nI j))]) C0.1 C0.2.1 d_MO_told_164 rfl hl (by decide) rfl (fun ls hl => ?_)
        refine lv_iinc (v := nI (j + 1)) (lv' := [(3, .int (nI (j + 1))), (2, .int (nI (cntN (fun v => decide (kd v = 0) && em v) (j + 1)))), (0, .ref (b 0))]) C0.1 C0.2.1 d_MO_told_165 hl (k := 2) rfl (inc1 _) (by decide) rfl (fun ls hl => ?_)
        refine lv_goto (tgt := 131) C0.1 C0.2.1 d_MO_told_168 (by decide) ?_
        exact ih_131 (j + 1) (show (j + 1) ≤ n from by omega) (show n - (j + 1) < n - j from by omega) ls (lv_sub hl [2, 1, 0] rfl)
      · have hk0 : kd j = 0 := (nI_eq (by have := hk j; omega) (by decide)).mp c_146
        refine lv_aload_n C0.1 C0.2.1 d_MO_told_149 rfl (lv_at hl 0 rfl) ?_
        refine gf_MO_13 C0 hP 0 rfl rfl d_MO_told_150 ?_
        refine lv_iload_n C0.1 C0.2.1 d_MO_told_153 rfl (lv_at hl 2 rfl) ?_
        refine ald_z C0 hP 2 1 rfl rfl (by omega) (by decide) d_MO_told_154 ?_
        refine lv_if_eq (tgt := 162) C0.1 C0.2.1 d_MO_told_155 (by decide) (fun c_155 => ?_) (fun c_155 => ?_)
        · refine lv_iconst (v := nI 0) C0.1 C0.2.1 d_MO_told_162 (by decide) ?_
          refine lv_iadd C0.1 C0.2.1 d_MO_told_163 ?_
          refine ti (show (nI (cntN (fun v => decide (kd v = 0) && em v) j)) + (nI 0) = nI (cntN (fun v => decide (kd v = 0) && em v) (j + 1)) from by rw [nI_add, Nat.add_zero]; congr 1; exact (cntN_n (f := (fun v => decide (kd v = 0) && em v)) (by rw [bI_0.mp c_155, Bool.and_false])).symm) ?_
          refine lv_istore_n (lv' := [(2, .int (nI (cntN (fun v => decide (kd v = 0) && em v) (j + 1)))), (0, .ref (b 0)), (3, .int (nI j))]) C0.1 C0.2.1 d_MO_told_164 rfl hl (by decide) rfl (fun ls hl => ?_)
          refine lv_iinc (v := nI (j + 1)) (lv' := [(3, .int (nI (j + 1))), (2, .int (nI (cntN (fun v => decide (kd v = 0) && em v) (j + 1)))), (0, .ref (b 0))]) C0.1 C0.2.1 d_MO_told_165 hl (k := 2) rfl (inc1 _) (by decide) rfl (fun ls hl => ?_)
          refine lv_goto (tgt := 131) C0.1 C0.2.1 d_MO_told_168 (by decide) ?_
          exact ih_131 (j + 1) (show (j + 1) ≤ n from by omega) (show n - (j + 1) < n - j from by omega) ls (lv_sub hl [2, 1, 0] rfl)
        · refine lv_iconst (v := nI 1) C0.1 C0.2.1 d_MO_told_158 (by decide) ?_
          refine lv_goto (tgt := 163) C0.1 C0.2.1 d_MO_told_159 (by decide) ?_
          refine lv_iadd C0.1 C0.2.1 d_MO_told_163 ?_
          refine ti (show (nI (cntN (fun v => decide (kd v = 0) && em v) j)) + (nI 1) = nI (cntN (fun v => decide (kd v = 0) && em v) (j + 1)) from by rw [nI_add]; congr 1; exact (cntN_t (f := (fun v => decide (kd v = 0) && em v)) (by rw [bI_n0.mp c_155, decide_eq_true hk0]; rfl)).symm) ?_
          refine lv_istore_n (lv' := [(2, .int (nI (cntN (fun v => decide (kd v = 0) && em v) (j + 1)))), (0, .ref (b 0)), (3, .int (nI j))]) C0.1 C0.2.1 d_MO_told_164 rfl hl (by decide) rfl (fun ls hl => ?_)
          refine lv_iinc (v := nI (j + 1)) (lv' := [(3, .int (nI (j + 1))), (2, .int (nI (cntN (fun v => decide (kd v = 0) && em v) (j + 1)))), (0, .ref (b 0))]) C0.1 C0.2.1 d_MO_told_165 hl (k := 2) rfl (inc1 _) (by decide) rfl (fun ls hl => ?_)
          refine lv_goto (tgt := 131) C0.1 C0.2.1 d_MO_told_168 (by decide) ?_
          exact ih_131 (j + 1) (show (j + 1) ≤ n from by omega) (show n - (j + 1) < n - j from by omega) ls (lv_sub hl [2, 1, 0] rfl)
  by_cases e6 : x = 6
  · subst e6
    refine lv_tableIn (off := 170) (tgt := 173) C0.1 C0.2.1 d_MO_told_3 (by decide) (by decide) (by decide) (by decide) ?_
    refine lv_iconst (v := nI 0) C0.1 C0.2.1 d_MO_told_173 (by decide) ?_
    refine lv_istore_n (lv' := [(3, .int (nI 0)), (2, .int (nI 0)), (0, .ref (b 0)), (1, .int 6)]) C0.1 C0.2.1 d_MO_told_174 rfl hl (by decide) rfl (fun ls hl => ?_)
    refine wlR (σ := Nat) (head := 175) (fun z_ => n - z_) (fun z_ => z_ ≤ n) (fun z_ => [(0, .ref (b 0)), (2, .int (nI (cntN (fun v => !anyN (endB ea eb v) np) z_))), (3, .int (nI z_))]) ?_ 0 (show 0 ≤ n from Nat.zero_le _) (lv_sub hl [2, 1, 0] rfl)
    rintro j hi ih_175 ls hl
    have hi : j ≤ n := hi
    have hl : lv_has ls 6 [(0, .ref (b 0)), (2, .int (nI (cntN (fun v => !anyN (endB ea eb v) np) j))), (3, .int (nI j))] := hl
    refine lv_iload_n C0.1 C0.2.1 d_MO_told_175 rfl (lv_at hl 2 rfl) ?_
    refine lv_aload_n C0.1 C0.2.1 d_MO_told_176 rfl (lv_at hl 0 rfl) ?_
    refine gf_MO_66 C0 hP 0 rfl rfl d_MO_told_177 ?_
    refine lv_icmp_ge (tgt := 257) C0.1 C0.2.1 d_MO_told_180 (by decide) (fun c_180 => ?_) (fun c_180 => ?_)
    · have hj : j = n := by have := (nI_leI (by omega) (by omega)).mp c_180; omega
      refine lv_iload_n C0.1 C0.2.1 d_MO_told_257 rfl (lv_at hl 1 rfl) ?_
      exact eR_i C0 hr hlk (by rw [hj]; rfl) d_MO_told_258
    · have hj : j < n := (nI_nle' (by omega) (by omega)).mp c_180
      refine lv_iconst (v := bI (!anyN (endB ea eb j) 0)) C0.1 C0.2.1 d_MO_told_183 rfl ?_
      refine lv_istore (lv' := [(4, .int (bI (!anyN (endB ea eb j) 0))), (0, .ref (b 0)), (2, .int (nI (cntN (fun v => !anyN (endB ea eb v) np) j))), (3, .int (nI j))]) C0.1 C0.2.1 d_MO_told_184 hl (by decide) rfl (fun ls hl => ?_)
      refine lv_iconst (v := nI 0) C0.1 C0.2.1 d_MO_told_186 (by decide) ?_
      refine lv_istore (lv' := [(5, .int (nI 0)), (4, .int (bI (!anyN (endB ea eb j) 0))), (0, .ref (b 0)), (2, .int (nI (cntN (fun v => !anyN (endB ea eb v) np) j))), (3, .int (nI j))]) C0.1 C0.2.1 d_MO_told_187 hl (by decide) rfl (fun ls hl => ?_)
      refine wlR (σ := Nat) (head := 189) (fun z_ => np - z_) (fun z_ => z_ ≤ np) (fun z_ => [(0, .ref (b 0)), (2, .int (nI (cntN (fun v => !anyN (endB ea eb v) np) j))), (3, .int (nI j)), (4, .int (bI (!anyN (endB ea eb j) z_))), (5, .int (nI z_))]) ?_ 0 (show 0 ≤ np from Nat.zero_le _) (lv_sub hl [2, 3, 4, 1, 0] rfl)
      rintro i hi ih_189 ls hl
      have hi : i ≤ np := hi
      have hl : lv_has ls 6 [(0, .ref (b 0)), (2, .int (nI (cntN (fun v => !anyN (endB ea eb v) np) j))), (3, .int (nI j)), (4, .int (bI (!anyN (endB ea eb j) i))), (5, .int (nI i))] := hl
      refine lv_iload C0.1 C0.2.1 d_MO_told_189 (lv_at hl 4 rfl) ?_
      refine lv_aload_n C0.1 C0.2.1 d_MO_told_191 rfl (lv_at hl 0 rfl) ?_
      refine gf_MO_80 C0 hP 0 rfl rfl d_MO_told_192 ?_
      refine lv_icmp_ge (tgt := 238) C0.1 C0.2.1 d_MO_told_195 (by decide) (fun c_195 => ?_) (fun c_195 => ?_)
      · have hi : i = np := by have := (nI_leI (by omega) (by omega)).mp c_195; omega
        refine lv_iload_n C0.1 C0.2.1 d_MO_told_238 rfl (lv_at hl 1 rfl) ?_
        refine lv_iload C0.1 C0.2.1 d_MO_told_239 (lv_at hl 3 rfl) ?_
        refine lv_if_eq (tgt := 248) C0.1 C0.2.1 d_MO_told_241 (by decide) (fun c_241 => ?_) (fun c_241 => ?_)
        · refine lv_iconst (v := nI 0) C0.1 C0.2.1 d_MO_told_248 (by decide) ?_
          refine lv_iadd C0.1 C0.2.1 d_MO_told_249 ?_
          refine ti (show (nI (cntN (fun v => !anyN (endB ea eb v) np) j)) + (nI 0) = nI (cntN (fun v => !anyN (endB ea eb v) np) (j + 1)) from by rw [nI_add, Nat.add_zero]; congr 1; exact (cntN_n (f := (fun v => !anyN (endB ea eb v) np)) (by rw [← hi]; exact bI_0.mp c_241)).symm) ?_
          refine lv_istore_n (lv' := [(2, .int (nI (cntN (fun v => !anyN (endB ea eb v) np) (j + 1)))), (0, .ref (b 0)), (3, .int (nI j)), (4, .int (bI (!anyN (endB ea eb j) i))), (5, .int (nI i))]) C0.1 C0.2.1 d_MO_told_250 rfl hl (by decide) rfl (fun ls hl => ?_)
          refine lv_iinc (v := nI (j + 1)) (lv' := [(3, .int (nI (j + 1))), (2, .int (nI (cntN (fun v => !anyN (endB ea eb v) np) (j + 1)))), (0, .ref (b 0)), (4, .int (bI (!anyN (endB ea eb j) i))), (5, .int (nI i))]) C0.1 C0.2.1 d_MO_told_251 hl (k := 2) rfl (inc1 _) (by decide) rfl (fun ls hl => ?_)
          refine lv_goto (tgt := 175) C0.1 C0.2.1 d_MO_told_254 (by decide) ?_
          exact ih_175 (j + 1) (show (j + 1) ≤ n from by omega) (show n - (j + 1) < n - j from by omega) ls (lv_sub hl [2, 1, 0] rfl)
        · refine lv_iconst (v := nI 1) C0.1 C0.2.1 d_MO_told_244 (by decide) ?_
          refine lv_goto (tgt := 249) C0.1 C0.2.1 d_MO_told_245 (by decide) ?_
          refine lv_iadd C0.1 C0.2.1 d_MO_told_249 ?_
          refine ti (show (nI (cntN (fun v => !anyN (endB ea eb v) np) j)) + (nI 1) = nI (cntN (fun v => !anyN (endB ea eb v) np) (j + 1)) from by rw [nI_add]; congr 1; exact (cntN_t (f := (fun v => !anyN (endB ea eb v) np)) (by rw [← hi]; exact bI_n0.mp c_241)).symm) ?_
          refine lv_istore_n (lv' := [(2, .int (nI (cntN (fun v => !anyN (endB ea eb v) np) (j + 1)))), (0, .ref (b 0)), (3, .int (nI j)), (4, .int (bI (!anyN (endB ea eb j) i))), (5, .int (nI i))]) C0.1 C0.2.1 d_MO_told_250 rfl hl (by decide) rfl (fun ls hl => ?_)
          refine lv_iinc (v := nI (j + 1)) (lv' := [(3, .int (nI (j + 1))), (2, .int (nI (cntN (fun v => !anyN (endB ea eb v) np) (j + 1)))), (0, .ref (b 0)), (4, .int (bI (!anyN (endB ea eb j) i))), (5, .int (nI i))]) C0.1 C0.2.1 d_MO_told_251 hl (k := 2) rfl (inc1 _) (by decide) rfl (fun ls hl => ?_)
          refine lv_goto (tgt := 175) C0.1 C0.2.1 d_MO_told_254 (by decide) ?_
          exact ih_175 (j + 1) (show (j + 1) ≤ n from by omega) (show n - (j + 1) < n - j from by omega) ls (lv_sub hl [2, 1, 0] rfl)
      · have hi : i < np := (nI_nle' (by omega) (by omega)).mp c_195
        have hxa := hea i hi
        have hxb := heb i hi
        refine wcut (g2 := F0 m 230 ls [.int (bI (!anyN (endB ea eb j) (i + 1)))]) ?_ (fun T230 => ?_)
        · refine lv_istore (lv' := [(4, .int (bI (!anyN (endB ea eb j) (i + 1)))), (0, .ref (b 0)), (2, .int (nI (cntN (fun v => !anyN (endB ea eb v) np) j))), (3, .int (nI j)), (5, .int (nI i))]) C0.1 C0.2.1 d_MO_told_230 hl (by decide) rfl (fun ls hl => ?_)
          refine lv_iinc (v := nI (i + 1)) (lv' := [(5, .int (nI (i + 1))), (4, .int (bI (!anyN (endB ea eb j) (i + 1)))), (0, .ref (b 0)), (2, .int (nI (cntN (fun v => !anyN (endB ea eb v) np) j))), (3, .int (nI j))]) C0.1 C0.2.1 d_MO_told_232 hl (k := 4) rfl (inc1 _) (by decide) rfl (fun ls hl => ?_)
          refine lv_goto (tgt := 189) C0.1 C0.2.1 d_MO_told_235 (by decide) ?_
          exact ih_189 (i + 1) (show (i + 1) ≤ np from by omega) (show np - (i + 1) < np - i from by omega) ls (lv_sub hl [2, 3, 4, 1, 0] rfl)
        · refine lv_iload C0.1 C0.2.1 d_MO_told_198 (lv_at hl 3 rfl) ?_
          refine lv_if_eq (tgt := 229) C0.1 C0.2.1 d_MO_told_200 (by decide) (fun c_200 => ?_) (fun c_200 => ?_)
          · refine lv_iconst (v := nI 0) C0.1 C0.2.1 d_MO_told_229 (by decide) ?_
            exact ti (show nI 0 = bI (!anyN (endB ea eb j) (i + 1)) from by rw [lf_1 (bI_0.mp c_200)]; rfl) T230
          · refine lv_aload_n C0.1 C0.2.1 d_MO_told_203 rfl (lv_at hl 0 rfl) ?_
            refine gf_MO_26 C0 hP 0 rfl rfl d_MO_told_204 ?_
            refine lv_iload C0.1 C0.2.1 d_MO_told_207 (lv_at hl 4 rfl) ?_
            refine ald_i C0 hP 6 0 rfl rfl (by omega) (by decide) d_MO_told_209 ?_
            refine lv_iload_n C0.1 C0.2.1 d_MO_told_210 rfl (lv_at hl 2 rfl) ?_
            refine lv_icmp_eq (tgt := 229) C0.1 C0.2.1 d_MO_told_211 (by decide) (fun c_211 => ?_) (fun c_211 => ?_)
            · refine lv_iconst (v := nI 0) C0.1 C0.2.1 d_MO_told_229 (by decide) ?_
              exact ti (show nI 0 = bI (!anyN (endB ea eb j) (i + 1)) from by rw [lf_2 (endB_1 ((nI_eq (by omega) (by omega)).mp c_211))]; rfl) T230
            · refine lv_aload_n C0.1 C0.2.1 d_MO_told_214 rfl (lv_at hl 0 rfl) ?_
              refine gf_MO_29 C0 hP 0 rfl rfl d_MO_told_215 ?_
              refine lv_iload C0.1 C0.2.1 d_MO_told_218 (lv_at hl 4 rfl) ?_
              refine ald_i C0 hP 7 0 rfl rfl (by omega) (by decide) d_MO_told_220 ?_
              refine lv_iload_n C0.1 C0.2.1 d_MO_told_221 rfl (lv_at hl 2 rfl) ?_
              refine lv_icmp_eq (tgt := 229) C0.1 C0.2.1 d_MO_told_222 (by decide) (fun c_222 => ?_) (fun c_222 => ?_)
              · refine lv_iconst (v := nI 0) C0.1 C0.2.1 d_MO_told_229 (by decide) ?_
                exact ti (show nI 0 = bI (!anyN (endB ea eb j) (i + 1)) from by rw [lf_2 (endB_2 ((nI_eq (by omega) (by omega)).mp c_222))]; rfl) T230
              · refine lv_iconst (v := nI 1) C0.1 C0.2.1 d_MO_told_225 (by decide) ?_
                refine lv_goto (tgt := 230) C0.1 C0.2.1 d_MO_told_226 (by decide) ?_
                exact ti (show nI 1 = bI (!anyN (endB ea eb j) (i + 1)) from by rw [lf_3 (bI_n0.mp c_200) (endB_f (fun q => c_211 (by rw [q])) (fun q => c_222 (by rw [q])))]; rfl) T230
  refine lv_tableOut (tgt := 259) C0.1 C0.2.1 d_MO_told_3 (told_out e0 e1 e2 e3 e4 e5 e6) (by decide) ?_
  refine lv_iconst (v := -1) C0.1 C0.2.1 d_MO_told_259 (by decide) ?_
  exact eR_i C0 hr hlk (by unfold toldF; rw [if_neg e0, if_neg e1, if_neg e2, if_neg e3, if_neg e4, if_neg e5, if_neg e6]) d_MO_told_260
end MODEL5

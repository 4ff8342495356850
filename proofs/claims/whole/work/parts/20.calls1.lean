/-! pure words of the class's own calls -/
def refC (n : Nat) (kd : Nat → Nat) (em : Nat → Bool) (x y : Int32) : Int32 := if (isK n kd x 0 && isK n kd y 0) = true then (if x = y then -3 else if em x.toNatClampNeg = true then -4 else nI 0) else -2
theorem refC_w {n : Nat} {kd : Nat → Nat} {em : Nat → Bool} {x y : Int32} (h : (isK n kd x 0 && isK n kd y 0) = false) : refC n kd em x y = -2 := by
  unfold refC; rw [h]; rfl
theorem refC_s {n : Nat} {kd : Nat → Nat} {em : Nat → Bool} {x y : Int32} (h : isK n kd x 0 = true) (h' : isK n kd y 0 = true) (e : x = y) : refC n kd em x y = -3 := by
  unfold refC; rw [h, h', if_pos (by decide), if_pos e]
theorem refC_e {n : Nat} {kd : Nat → Nat} {em : Nat → Bool} {x y : Int32} (h : isK n kd x 0 = true) (h' : isK n kd y 0 = true) (e : ¬ x = y) (hm : em x.toNatClampNeg = true) : refC n kd em x y = -4 := by
  unfold refC; rw [h, h', if_pos (by decide), if_neg e, if_pos hm]
theorem refC_0 {n : Nat} {kd : Nat → Nat} {em : Nat → Bool} {x y : Int32} (h : isK n kd x 0 = true) (h' : isK n kd y 0 = true) (e : ¬ x = y) (hm : em x.toNatClampNeg = false) : refC n kd em x y = nI 0 := by
  unfold refC; rw [h, h', if_pos (by decide), if_neg e, hm]; rfl
theorem refC_ex {n : Nat} {kd : Nat → Nat} {em : Nat → Bool} {x y : Int32} (hn : n ≤ 48) (h : refC n kd em x y = 0) : ∃ i j, i < n ∧ j < n ∧ x = nI i ∧ y = nI j ∧ kd i = 0 ∧ kd j = 0 ∧ i ≠ j := by
  unfold refC at h
  by_cases h1 : (isK n kd x 0 && isK n kd y 0) = true
  · rw [if_pos h1] at h
    rw [Bool.and_eq_true] at h1
    obtain ⟨i, a1, a2, a3⟩ := isK_ex (by omega) h1.1
    obtain ⟨j, b1, b2, b3⟩ := isK_ex (by omega) h1.2
    refine ⟨i, j, a1, b1, a2, b2, a3, b3, fun q => ?_⟩
    rw [if_pos (by rw [a2, b2, q])] at h
    exact absurd h (by decide)
  · rw [if_neg h1] at h
    exact absurd h (by decide)
def pipR (n np : Nat) (x y : Int32) (z : Int64) : Int32 := if (hasB n x && hasB n y) = true then (if z < 1 ∨ 1000000000 < z ∨ x = y then -1 else if np = 96 then -5 else 0) else -2
theorem pipR_w {n np : Nat} {x y : Int32} {z : Int64} (h : (hasB n x && hasB n y) = false) : pipR n np x y z = -2 := by
  unfold pipR; rw [h]; rfl
theorem pipR_n {n np : Nat} {x y : Int32} {z : Int64} (h : hasB n x = true) (h' : hasB n y = true) (e : z < 1 ∨ 1000000000 < z ∨ x = y) : pipR n np x y z = -1 := by
  unfold pipR; rw [h, h', if_pos (by decide), if_pos e]
theorem pipR_f {n np : Nat} {x y : Int32} {z : Int64} (h : hasB n x = true) (h' : hasB n y = true) (e : ¬ (z < 1 ∨ 1000000000 < z ∨ x = y)) (hf : np = 96) : pipR n np x y z = -5 := by
  unfold pipR; rw [h, h', if_pos (by decide), if_neg e, if_pos hf]
theorem pipR_0 {n np : Nat} {x y : Int32} {z : Int64} (h : hasB n x = true) (h' : hasB n y = true) (e : ¬ (z < 1 ∨ 1000000000 < z ∨ x = y)) (hf : ¬ np = 96) : pipR n np x y z = 0 := by
  unfold pipR; rw [h, h', if_pos (by decide), if_neg e, if_neg hf]
theorem pipR_ex {n np : Nat} {x y : Int32} {z : Int64} (hn : n ≤ 48) (h : pipR n np x y z = 0) : ∃ i j k, i < n ∧ j < n ∧ x = nI i ∧ y = nI j ∧ z = lN k ∧ 1 ≤ k ∧ k ≤ 1000000000 ∧ i ≠ j ∧ np ≠ 96 := by
  unfold pipR at h
  by_cases h1 : (hasB n x && hasB n y) = true
  · rw [if_pos h1] at h
    rw [Bool.and_eq_true] at h1
    obtain ⟨i, a1, a2⟩ := hasB_ex (by omega) h1.1
    obtain ⟨j, b1, b2⟩ := hasB_ex (by omega) h1.2
    by_cases h2 : z < 1 ∨ 1000000000 < z ∨ x = y
    · rw [if_pos h2] at h
      exact absurd h (by decide)
    · rw [if_neg h2] at h
      by_cases h3 : np = 96
      · rw [if_pos h3] at h
        exact absurd h (by decide)
      · have z0 : ¬ z < 0 := by
          intro q
          refine h2 (Or.inl ?_)
          rw [Int64.lt_iff_toInt_lt] at q ⊢
          have e0 : (0 : Int64).toInt = 0 := by decide
          have e1 : (1 : Int64).toInt = 1 := by decide
          omega
        obtain ⟨k, c1, c2⟩ := pk_lOf z0
        have c3 : 1 ≤ k := by
          rcases Nat.lt_or_ge k 1 with q | q
          · exact absurd (Or.inl (by rw [c2]; exact (pk_lLT c1 (by decide)).mpr q)) h2
          · exact q
        have c4 : k ≤ 1000000000 := by
          rcases Nat.lt_or_ge 1000000000 k with q | q
          · exact absurd (Or.inr (Or.inl (by rw [c2]; exact (pk_lLT (by decide) c1).mpr q))) h2
          · exact q
        exact ⟨i, j, k, a1, b1, a2, b2, c2, c3, c4, fun q => h2 (Or.inr (Or.inr (by rw [a2, b2, q]))), h3⟩
  · rw [if_neg h1] at h
    exact absurd h (by decide)
def fwdB (n : Nat) (kd : Nat → Nat) (np : Nat) (ea eb : Nat → Nat) (x y z : Int32) : Bool := (isK n kd x 1 && decide (¬ y = z)) && (anyN (joinB ea eb x y) np && anyN (joinB ea eb x z) np)
def toldF (n np wn c3 c4 c5 c6 : Nat) (x : Int32) : Int32 := if x = 0 then nI n else if x = 1 then nI np else if x = 2 then nI wn else if x = 3 then nI c3 else if x = 4 then nI c4 else if x = 5 then nI c5 else if x = 6 then nI c6 else -1
def waL (L : List Wy) : Nat → Option Nat := fun j => (L[j]?).map (fun x => x.2.2.1)
theorem waL_push {L : List Wy} {x : Wy} : va_up (waL L) L.length (some x.2.2.1) = waL (L ++ [x]) := by
  funext j
  unfold va_up waL
  by_cases h : j = L.length
  · subst h
    rw [if_pos rfl]
    simp
  · rw [if_neg h]
    by_cases h2 : j < L.length
    · rw [List.getElem?_append_left h2]
    · rw [List.getElem?_eq_none (by omega), List.getElem?_eq_none (by simp; omega)]
theorem waL_at {L : List Wy} {i : Nat} {x : Wy} (h : L[i]? = some x) : waL L i = some x.2.2.1 := by
  unfold waL; rw [h]; rfl

section CALLS1
variable {l : Launch} {g : va_G} {t : Nat → ClassId} {a : Nat → Nat} {n : Nat} {kd : Nat → Nat} {em : Nat → Bool} {br : Nat → Bool} {ii : Nat → Int32} {oo : Nat → Int32} {np : Nat} {ea : Nat → Nat} {eb : Nat → Nat} {li : Nat → Nat} {rn : Nat → Bool} {wa : Nat → Option Nat} {wn : Nat} {sT : Nat → Bool} {sP : Nat → Bool} {ak : Nat} {ap : Nat → Nat} {af : Nat → Nat} {tt : Nat → Nat} {ac : Nat → Nat} {ct : Nat → Nat} {rp : Nat → Nat} {rt : Nat → Nat} {rest : va_W} {L : List Wy}
set_option maxHeartbeats 4000000 in
set_option maxRecDepth 100000 in
theorem c_WS_changeMark_rn (p0 : Nat) (b0 : Bool) (hx : p0 < 96) : Mt l y_WS_changeMark w_WS_changeMark ({ frames := 0, cells := 0, slots := 0, locals := 0 }) g classes (tyL t) [.ref (a 13), .int (nI p0), .int (bI b0)] (wW a t n kd em br ii oo np ea eb li rn wa wn sT sP ak ap af tt ac ct rp rt rest L) (S := Unit) (fun v _ => v = some (.int (bI (decide (¬ rn p0 = b0))))) (fun _ => (wW a t n kd em br ii oo np ea eb li (va_up rn p0 b0) wa wn sT sP ak ap af tt ac ct rp rt rest L)) 0 0 := by
  refine Mt.of (cc := b_WS_changeMark) (maxL := 4) (ret := (some .boolean)) (own := R_WS) (by decide) rfl rfl (Nat.le_of_ble_eq_true rfl) ?_
  intro p e s m args below meth c C0 hr hlk hin A hA hB ls hl
  have hl : lv_has ls 4 [(0, .ref (a 13)), (1, .int (nI p0)), (2, .int (bI b0))] := hl
  refine wcut (g2 := F0 m 12 ls [.int (bI (decide (¬ rn p0 = b0)))]) ?_ (fun T12 => ?_)
  · refine lv_istore_n (lv' := [(3, .int (bI (decide (¬ rn p0 = b0)))), (0, .ref (a 13)), (1, .int (nI p0)), (2, .int (bI b0))]) C0.1 C0.2.1 d_WS_changeMark_12 rfl hl (by decide) rfl (fun ls hl => ?_)
    refine lv_aload_n C0.1 C0.2.1 d_WS_changeMark_13 rfl (lv_at hl 1 rfl) ?_
    refine lv_iload_n C0.1 C0.2.1 d_WS_changeMark_14 rfl (lv_at hl 2 rfl) ?_
    refine lv_iload_n C0.1 C0.2.1 d_WS_changeMark_15 rfl (lv_at hl 3 rfl) ?_
    refine ast_z (w' := (wW a t n kd em br ii oo np ea eb li (va_up rn p0 b0) wa wn sT sP ak ap af tt ac ct rp rt rest L)) C0 hB 13 1 rfl rfl (by omega) (by decide) up_bI rfl d_WS_changeMark_16 (fun H locs hB => ?_)
    refine lv_iload_n C0.1 C0.2.1 d_WS_changeMark_17 rfl (lv_at hl 0 rfl) ?_
    exact eM_z C0 hr hlk (b := (decide (¬ rn p0 = b0))) () rfl hB rfl (Nat.le_refl _) (Nat.le_refl _) d_WS_changeMark_18
  · refine lv_aload_n C0.1 C0.2.1 d_WS_changeMark_0 rfl (lv_at hl 0 rfl) ?_
    refine lv_iload_n C0.1 C0.2.1 d_WS_changeMark_1 rfl (lv_at hl 1 rfl) ?_
    refine ald_z C0 hB.1 13 1 rfl rfl (by omega) (by decide) d_WS_changeMark_2 ?_
    refine lv_iload_n C0.1 C0.2.1 d_WS_changeMark_3 rfl (lv_at hl 2 rfl) ?_
    refine lv_icmp_eq (tgt := 11) C0.1 C0.2.1 d_WS_changeMark_4 (by decide) (fun c_4 => ?_) (fun c_4 => ?_)
    · refine lv_iconst (v := nI 0) C0.1 C0.2.1 d_WS_changeMark_11 (by decide) ?_
      exact ti (show nI 0 = bI (decide (¬ rn p0 = b0)) from by rw [decide_eq_false (fun z => z (bI_inj.mp c_4))]; rfl) T12
    · refine lv_iconst (v := nI 1) C0.1 C0.2.1 d_WS_changeMark_7 (by decide) ?_
      refine lv_goto (tgt := 12) C0.1 C0.2.1 d_WS_changeMark_8 (by decide) ?_
      exact ti (show nI 1 = bI (decide (¬ rn p0 = b0)) from by rw [decide_eq_true (show ¬ rn p0 = b0 from fun z => c_4 (by rw [z]))]; rfl) T12
set_option maxHeartbeats 4000000 in
set_option maxRecDepth 100000 in
theorem c_WS_changeMark_br (p0 : Nat) (b0 : Bool) (hx : p0 < 48) : Mt l y_WS_changeMark w_WS_changeMark ({ frames := 0, cells := 0, slots := 0, locals := 0 }) g classes (tyL t) [.ref (a 7), .int (nI p0), .int (bI b0)] (wW a t n kd em br ii oo np ea eb li rn wa wn sT sP ak ap af tt ac ct rp rt rest L) (S := Unit) (fun v _ => v = some (.int (bI (decide (¬ br p0 = b0))))) (fun _ => (wW a t n kd em (va_up br p0 b0) ii oo np ea eb li rn wa wn sT sP ak ap af tt ac ct rp rt rest L)) 0 0 := by
  refine Mt.of (cc := b_WS_changeMark) (maxL := 4) (ret := (some .boolean)) (own := R_WS) (by decide) rfl rfl (Nat.le_of_ble_eq_true rfl) ?_
  intro p e s m args below meth c C0 hr hlk hin A hA hB ls hl
  have hl : lv_has ls 4 [(0, .ref (a 7)), (1, .int (nI p0)), (2, .int (bI b0))] := hl
  refine wcut (g2 := F0 m 12 ls [.int (bI (decide (¬ br p0 = b0)))]) ?_ (fun T12 => ?_)
  · refine lv_istore_n (lv' := [(3, .int (bI (decide (¬ br p0 = b0)))), (0, .ref (a 7)), (1, .int (nI p0)), (2, .int (bI b0))]) C0.1 C0.2.1 d_WS_changeMark_12 rfl hl (by decide) rfl (fun ls hl => ?_)
    refine lv_aload_n C0.1 C0.2.1 d_WS_changeMark_13 rfl (lv_at hl 1 rfl) ?_
    refine lv_iload_n C0.1 C0.2.1 d_WS_changeMark_14 rfl (lv_at hl 2 rfl) ?_
    refine lv_iload_n C0.1 C0.2.1 d_WS_changeMark_15 rfl (lv_at hl 3 rfl) ?_
    refine ast_z (w' := (wW a t n kd em (va_up br p0 b0) ii oo np ea eb li rn wa wn sT sP ak ap af tt ac ct rp rt rest L)) C0 hB 7 1 rfl rfl (by omega) (by decide) up_bI rfl d_WS_changeMark_16 (fun H locs hB => ?_)
    refine lv_iload_n C0.1 C0.2.1 d_WS_changeMark_17 rfl (lv_at hl 0 rfl) ?_
    exact eM_z C0 hr hlk (b := (decide (¬ br p0 = b0))) () rfl hB rfl (Nat.le_refl _) (Nat.le_refl _) d_WS_changeMark_18
  · refine lv_aload_n C0.1 C0.2.1 d_WS_changeMark_0 rfl (lv_at hl 0 rfl) ?_
    refine lv_iload_n C0.1 C0.2.1 d_WS_changeMark_1 rfl (lv_at hl 1 rfl) ?_
    refine ald_z C0 hB.1 7 1 rfl rfl (by omega) (by decide) d_WS_changeMark_2 ?_
    refine lv_iload_n C0.1 C0.2.1 d_WS_changeMark_3 rfl (lv_at hl 2 rfl) ?_
    refine lv_icmp_eq (tgt := 11) C0.1 C0.2.1 d_WS_changeMark_4 (by decide) (fun c_4 => ?_) (fun c_4 => ?_)
    · refine lv_iconst (v := nI 0) C0.1 C0.2.1 d_WS_changeMark_11 (by decide) ?_
      exact ti (show nI 0 = bI (decide (¬ br p0 = b0)) from by rw [decide_eq_false (fun z => z (bI_inj.mp c_4))]; rfl) T12
    · refine lv_iconst (v := nI 1) C0.1 C0.2.1 d_WS_changeMark_7 (by decide) ?_
      refine lv_goto (tgt := 12) C0.1 C0.2.1 d_WS_changeMark_8 (by decide) ?_
      exact ti (show nI 1 = bI (decide (¬ br p0 = b0)) from by rw [decide_eq_true (show ¬ br p0 = b0 from fun z => c_4 (by rw [z]))]; rfl) T12
set_option maxHeartbeats 4000000 in
set_option maxRecDepth 100000 in
theorem c_WS_countMarks_br  : Rd l y_WS_countMarks w_WS_countMarks ({ frames := 0, cells := 0, slots := 0, locals := 0 }) g classes (tyL t) [.ref (a 7)] (wW a t n kd em br ii oo np ea eb li rn wa wn sT sP ak ap af tt ac ct rp rt rest L) (some (.int (nI (cntN br 48)))) := by
  refine Rd.of (cc := b_WS_countMarks) (maxL := 6) (ret := (some .int)) (own := R_WS) (by decide) rfl rfl (Nat.le_of_ble_eq_true rfl) ?_
  intro p e s m args below meth c C0 hr hlk hP ls hl
  have hl : lv_has ls 6 [(0, .ref (a 7))] := hl
  refine lv_iconst (v := nI 0) C0.1 C0.2.1 d_WS_countMarks_0 (by decide) ?_
  refine lv_istore_n (lv' := [(1, .int (nI 0)), (0, .ref (a 7))]) C0.1 C0.2.1 d_WS_countMarks_1 rfl hl (by decide) rfl (fun ls hl => ?_)
  refine lv_aload_n C0.1 C0.2.1 d_WS_countMarks_2 rfl (lv_at hl 1 rfl) ?_
  refine lv_astore_n (lv' := [(2, .ref (a 7)), (1, .int (nI 0)), (0, .ref (a 7))]) C0.1 C0.2.1 d_WS_countMarks_3 rfl hl (by decide) rfl (fun ls hl => ?_)
  refine lv_aload_n C0.1 C0.2.1 d_WS_countMarks_4 rfl (lv_at hl 0 rfl) ?_
  refine alen (n := 48) C0 hP 7 1 rfl rfl rfl d_WS_countMarks_5 ?_
  refine lv_istore_n (lv' := [(3, .int (nI 48)), (2, .ref (a 7)), (1, .int (nI 0)), (0, .ref (a 7))]) C0.1 C0.2.1 d_WS_countMarks_6 rfl hl (by decide) rfl (fun ls hl => ?_)
  refine lv_iconst (v := nI 0) C0.1 C0.2.1 d_WS_countMarks_7 (by decide) ?_
  refine lv_istore (lv' := [(4, .int (nI 0)), (3, .int (nI 48)), (2, .ref (a 7)), (1, .int (nI 0)), (0, .ref (a 7))]) C0.1 C0.2.1 d_WS_countMarks_8 hl (by decide) rfl (fun ls hl => ?_)
  refine wlR (σ := Nat) (head := 10) (fun z_ => 48 - z_) (fun z_ => z_ ≤ 48) (fun z_ => [(0, .ref (a 7)), (1, .int (nI (cntN br z_))), (2, .ref (a 7)), (3, .int (nI 48)), (4, .int (nI z_))]) ?_ 0 (show 0 ≤ 48 from Nat.zero_le _) (lv_sub hl [4, 3, 2, 1, 0] rfl)
  rintro j hi ih_10 ls hl
  have hi : j ≤ 48 := hi
  have hl : lv_has ls 6 [(0, .ref (a 7)), (1, .int (nI (cntN br j))), (2, .ref (a 7)), (3, .int (nI 48)), (4, .int (nI j))] := hl
  refine lv_iload C0.1 C0.2.1 d_WS_countMarks_10 (lv_at hl 4 rfl) ?_
  refine lv_iload_n C0.1 C0.2.1 d_WS_countMarks_12 rfl (lv_at hl 3 rfl) ?_
  refine lv_icmp_ge (tgt := 36) C0.1 C0.2.1 d_WS_countMarks_13 (by decide) (fun c_13 => ?_) (fun c_13 => ?_)
  · have hj : j = 48 := by have := (nI_leI (by omega) (by omega)).mp c_13; omega
    refine lv_iload_n C0.1 C0.2.1 d_WS_countMarks_36 rfl (lv_at hl 1 rfl) ?_
    exact eR_i C0 hr hlk (by rw [hj]) d_WS_countMarks_37
  · have hj : j < 48 := (nI_nle' (by omega) (by omega)).mp c_13
    refine lv_aload_n C0.1 C0.2.1 d_WS_countMarks_16 rfl (lv_at hl 2 rfl) ?_
    refine lv_iload C0.1 C0.2.1 d_WS_countMarks_17 (lv_at hl 4 rfl) ?_
    refine ald_z C0 hP 7 1 rfl rfl (by omega) (by decide) d_WS_countMarks_19 ?_
    refine lv_istore (lv' := [(5, .int (bI (br j))), (0, .ref (a 7)), (1, .int (nI (cntN br j))), (2, .ref (a 7)), (3, .int (nI 48)), (4, .int (nI j))]) C0.1 C0.2.1 d_WS_countMarks_20 hl (by decide) rfl (fun ls hl => ?_)
    refine lv_iload C0.1 C0.2.1 d_WS_countMarks_22 (lv_at hl 0 rfl) ?_
    refine lv_if_eq (tgt := 30) C0.1 C0.2.1 d_WS_countMarks_24 (by decide) (fun c_24 => ?_) (fun c_24 => ?_)
    · rw [← cntN_n (bI_0.mp c_24)] at hl
      refine lv_iinc (v := nI (j + 1)) (lv' := [(4, .int (nI (j + 1))), (5, .int (bI (br j))), (0, .ref (a 7)), (1, .int (nI (cntN br (j + 1)))), (2, .ref (a 7)), (3, .int (nI 48))]) C0.1 C0.2.1 d_WS_countMarks_30 hl (k := 5) rfl (inc1 _) (by decide) rfl (fun ls hl => ?_)
      refine lv_goto (tgt := 10) C0.1 C0.2.1 d_WS_countMarks_33 (by decide) ?_
      exact ih_10 (j + 1) (show (j + 1) ≤ 48 from by omega) (show 48 - (j + 1) < 48 - j from by omega) ls (lv_sub hl [2, 3, 4, 5, 0] rfl)
    · refine lv_iinc (v := nI (cntN br (j + 1))) (lv' := [(1, .int (nI (cntN br (j + 1)))), (5, .int (bI (br j))), (0, .ref (a 7)), (2, .ref (a 7)), (3, .int (nI 48)), (4, .int (nI j))]) C0.1 C0.2.1 d_WS_countMarks_27 hl (k := 2) rfl (by rw [cntN_t (bI_n0.mp c_24)]; exact inc1 _) (by decide) rfl (fun ls hl => ?_)
      refine lv_iinc (v := nI (j + 1)) (lv' := [(4, .int (nI (j + 1))), (1, .int (nI (cntN br (j + 1)))), (5, .int (bI (br j))), (0, .ref (a 7)), (2, .ref (a 7)), (3, .int (nI 48))]) C0.1 C0.2.1 d_WS_countMarks_30 hl (k := 5) rfl (inc1 _) (by decide) rfl (fun ls hl => ?_)
      refine lv_goto (tgt := 10) C0.1 C0.2.1 d_WS_countMarks_33 (by decide) ?_
      exact ih_10 (j + 1) (show (j + 1) ≤ 48 from by omega) (show 48 - (j + 1) < 48 - j from by omega) ls (lv_sub hl [3, 1, 4, 5, 0] rfl)
set_option maxHeartbeats 4000000 in
set_option maxRecDepth 100000 in
theorem c_WS_countMarks_rn  : Rd l y_WS_countMarks w_WS_countMarks ({ frames := 0, cells := 0, slots := 0, locals := 0 }) g classes (tyL t) [.ref (a 13)] (wW a t n kd em br ii oo np ea eb li rn wa wn sT sP ak ap af tt ac ct rp rt rest L) (some (.int (nI (cntN rn 96)))) := by
  refine Rd.of (cc := b_WS_countMarks) (maxL := 6) (ret := (some .int)) (own := R_WS) (by decide) rfl rfl (Nat.le_of_ble_eq_true rfl) ?_
  intro p e s m args below meth c C0 hr hlk hP ls hl
  have hl : lv_has ls 6 [(0, .ref (a 13))] := hl
  refine lv_iconst (v := nI 0) C0.1 C0.2.1 d_WS_countMarks_0 (by decide) ?_
  refine lv_istore_n (lv' := [(1, .int (nI 0)), (0, .ref (a 13))]) C0.1 C0.2.1 d_WS_countMarks_1 rfl hl (by decide) rfl (fun ls hl => ?_)
  refine lv_aload_n C0.1 C0.2.1 d_WS_countMarks_2 rfl (lv_at hl 1 rfl) ?_
  refine lv_astore_n (lv' := [(2, .ref (a 13)), (1, .int (nI 0)), (0, .ref (a 13))]) C0.1 C0.2.1 d_WS_countMarks_3 rfl hl (by decide) rfl (fun ls hl => ?_)
  refine lv_aload_n C0.1 C0.2.1 d_WS_countMarks_4 rfl (lv_at hl 0 rfl) ?_
  refine alen (n := 96) C0 hP 13 1 rfl rfl rfl d_WS_countMarks_5 ?_
  refine lv_istore_n (lv' := [(3, .int (nI 96)), (2, .ref (a 13)), (1, .int (nI 0)), (0, .ref (a 13))]) C0.1 C0.2.1 d_WS_countMarks_6 rfl hl (by decide) rfl (fun ls hl => ?_)
  refine lv_iconst (v := nI 0) C0.1 C0.2.1 d_WS_countMarks_7 (by decide) ?_
  refine lv_istore (lv' := [(4, .int (nI 0)), (3, .int (nI 96)), (2, .ref (a 13)), (1, .int (nI 0)), (0, .ref (a 13))]) C0.1 C0.2.1 d_WS_countMarks_8 hl (by decide) rfl (fun ls hl => ?_)
  refine wlR (σ := Nat) (head := 10) (fun z_ => 96 - z_) (fun z_ => z_ ≤ 96) (fun z_ => [(0, .ref (a 13)), (1, .int (nI (cntN rn z_))), (2, .ref (a 13)), (3, .int (nI 96)), (4, .int (nI z_))]) ?_ 0 (show 0 ≤ 96 from Nat.zero_le _) (lv_sub hl [4, 3, 2, 1, 0] rfl)
  rintro j hi ih_10 ls hl
  have hi : j ≤ 96 := hi
  have hl : lv_has ls 6 [(0, .ref (a 13)), (1, .int (nI (cntN rn j))), (2, .ref (a 13)), (3, .int (nI 96)), (4, .int (nI j))] := hl
  refine lv_iload C0.1 C0.2.1 d_WS_countMarks_10 (lv_at hl 4 rfl) ?_
  refine lv_iload_n C0.1 C0.2.1 d_WS_countMarks_12 rfl (lv_at hl 3 rfl) ?_
  refine lv_icmp_ge (tgt := 36) C0.1 C0.2.1 d_WS_countMarks_13 (by decide) (fun c_13 => ?_) (fun c_13 => ?_)
  · have hj : j = 96 := by have := (nI_leI (by omega) (by omega)).mp c_13; omega
    refine lv_iload_n C0.1 C0.2.1 d_WS_countMarks_36 rfl (lv_at hl 1 rfl) ?_
    exact eR_i C0 hr hlk (by rw [hj]) d_WS_countMarks_37
  · have hj : j < 96 := (nI_nle' (by omega) (by omega)).mp c_13
    refine lv_aload_n C0.1 C0.2.1 d_WS_countMarks_16 rfl (lv_at hl 2 rfl) ?_
    refine lv_iload C0.1 C0.2.1 d_WS_countMarks_17 (lv_at hl 4 rfl) ?_
    refine ald_z C0 hP 13 1 rfl rfl (by omega) (by decide) d_WS_countMarks_19 ?_
    refine lv_istore (lv' := [(5, .int (bI (rn j))), (0, .ref (a 13)), (1, .int (nI (cntN rn j))), (2, .ref (a 13)), (3, .int (nI 96)), (4, .int (nI j))]) C0.1 C0.2.1 d_WS_countMarks_20 hl (by decide) rfl (fun ls hl => ?_)
    refine lv_iload C0.1 C0.2.1 d_WS_countMarks_22 (lv_at hl 0 rfl) ?_
    refine lv_if_eq (tgt := 30) C0.1 C0.2.1 d_WS_countMarks_24 (by decide) (fun c_24 => ?_) (fun c_24 => ?_)
    · rw [← cntN_n (bI_0.mp c_24)] at hl
      refine lv_iinc (v := nI (j + 1)) (lv' := [(4, .int (nI (j + 1))), (5, .int (bI (rn j))), (0, .ref (a 13)), (1, .int (nI (cntN rn (j + 1)))), (2, .ref (a 13)), (3, .int (nI 96))]) C0.1 C0.2.1 d_WS_countMarks_30 hl (k := 5) rfl (inc1 _) (by decide) rfl (fun ls hl => ?_)
      refine lv_goto (tgt := 10) C0.1 C0.2.1 d_WS_countMarks_33 (by decide) ?_
      exact ih_10 (j + 1) (show (j + 1) ≤ 96 from by omega) (show 96 - (j + 1) < 96 - j from by omega) ls (lv_sub hl [2, 3, 4, 5, 0] rfl)
    · refine lv_iinc (v := nI (cntN rn (j + 1))) (lv' := [(1, .int (nI (cntN rn (j + 1)))), (5, .int (bI (rn j))), (0, .ref (a 13)), (2, .ref (a 13)), (3, .int (nI 96)), (4, .int (nI j))]) C0.1 C0.2.1 d_WS_countMarks_27 hl (k := 2) rfl (by rw [cntN_t (bI_n0.mp c_24)]; exact inc1 _) (by decide) rfl (fun ls hl => ?_)
      refine lv_iinc (v := nI (j + 1)) (lv' := [(4, .int (nI (j + 1))), (1, .int (nI (cntN rn (j + 1)))), (5, .int (bI (rn j))), (0, .ref (a 13)), (2, .ref (a 13)), (3, .int (nI 96))]) C0.1 C0.2.1 d_WS_countMarks_30 hl (k := 5) rfl (inc1 _) (by decide) rfl (fun ls hl => ?_)
      refine lv_goto (tgt := 10) C0.1 C0.2.1 d_WS_countMarks_33 (by decide) ?_
      exact ih_10 (j + 1) (show (j + 1) ≤ 96 from by omega) (show 96 - (j + 1) < 96 - j from by omega) ls (lv_sub hl [3, 1, 4, 5, 0] rfl)
set_option maxHeartbeats 4000000 in
set_option maxRecDepth 100000 in
theorem c_WS_countMarks_em  : Rd l y_WS_countMarks w_WS_countMarks ({ frames := 0, cells := 0, slots := 0, locals := 0 }) g classes (tyL t) [.ref (a 6)] (wW a t n kd em br ii oo np ea eb li rn wa wn sT sP ak ap af tt ac ct rp rt rest L) (some (.int (nI (cntN em 48)))) := by
  refine Rd.of (cc := b_WS_countMarks) (maxL := 6) (ret := (some .int)) (own := R_WS) (by decide) rfl rfl (Nat.le_of_ble_eq_true rfl) ?_
  intro p e s m args below meth c C0 hr hlk hP ls hl
  have hl : lv_has ls 6 [(0, .ref (a 6))] := hl
  refine lv_iconst (v := nI 0) C0.1 C0.2.1 d_WS_countMarks_0 (by decide) ?_
  refine lv_istore_n (lv' := [(1, .int (nI 0)), (0, .ref (a 6))]) C0.1 C0.2.1 d_WS_countMarks_1 rfl hl (by decide) rfl (fun ls hl => ?_)
  refine lv_aload_n C0.1 C0.2.1 d_WS_countMarks_2 rfl (lv_at hl 1 rfl) ?_
  refine lv_astore_n (lv' := [(2, .ref (a 6)), (1, .int (nI 0)), (0, .ref (a 6))]) C0.1 C0.2.1 d_WS_countMarks_3 rfl hl (by decide) rfl (fun ls hl => ?_)
  refine lv_aload_n C0.1 C0.2.1 d_WS_countMarks_4 rfl (lv_at hl 0 rfl) ?_
  refine alen (n := 48) C0 hP 6 1 rfl rfl rfl d_WS_countMarks_5 ?_
  refine lv_istore_n (lv' := [(3, .int (nI 48)), (2, .ref (a 6)), (1, .int (nI 0)), (0, .ref (a 6))]) C0.1 C0.2.1 d_WS_countMarks_6 rfl hl (by decide) rfl (fun ls hl => ?_)
  refine lv_iconst (v := nI 0) C0.1 C0.2.1 d_WS_countMarks_7 (by decide) ?_
  refine lv_istore (lv' := [(4, .int (nI 0)), (3, .int (nI 48)), (2, .ref (a 6)), (1, .int (nI 0)), (0, .ref (a 6))]) C0.1 C0.2.1 d_WS_countMarks_8 hl (by decide) rfl (fun ls hl => ?_)
  refine wlR (σ := Nat) (head := 10) (fun z_ => 48 - z_) (fun z_ => z_ ≤ 48) (fun z_ => [(0, .ref (a 6)), (1, .int (nI (cntN em z_))), (2, .ref (a 6)), (3, .int (nI 48)), (4, .int (nI z_))]) ?_ 0 (show 0 ≤ 48 from Nat.zero_le _) (lv_sub hl [4, 3, 2, 1, 0] rfl)
  rintro j hi ih_10 ls hl
  have hi : j ≤ 48 := hi
  have hl : lv_has ls 6 [(0, .ref (a 6)), (1, .int (nI (cntN em j))), (2, .ref (a 6)), (3, .int (nI 48)), (4, .int (nI j))] := hl
  refine lv_iload C0.1 C0.2.1 d_WS_countMarks_10 (lv_at hl 4 rfl) ?_
  refine lv_iload_n C0.1 C0.2.1 d_WS_countMarks_12 rfl (lv_at hl 3 rfl) ?_
  refine lv_icmp_ge (tgt := 36) C0.1 C0.2.1 d_WS_countMarks_13 (by decide) (fun c_13 => ?_) (fun c_13 => ?_)
  · have hj : j = 48 := by have := (nI_leI (by omega) (by omega)).mp c_13; omega
    refine lv_iload_n C0.1 C0.2.1 d_WS_countMarks_36 rfl (lv_at hl 1 rfl) ?_
    exact eR_i C0 hr hlk (by rw [hj]) d_WS_countMarks_37
  · have hj : j < 48 := (nI_nle' (by omega) (by omega)).mp c_13
    refine lv_aload_n C0.1 C0.2.1 d_WS_countMarks_16 rfl (lv_at hl 2 rfl) ?_
    refine lv_iload C0.1 C0.2.1 d_WS_countMarks_17 (lv_at hl 4 rfl) ?_
    refine ald_z C0 hP 6 1 rfl rfl (by omega) (by decide) d_WS_countMarks_19 ?_
    refine lv_istore (lv' := [(5, .int (bI (em j))), (0, .ref (a 6)), (1, .int (nI (cntN em j))), (2, .ref (a 6)), (3, .int (nI 48)), (4, .int (nI j))]) C0.1 C0.2.1 d_WS_countMarks_20 hl (by decide) rfl (fun ls hl => ?_)
    refine lv_iload C0.1 C0.2.1 d_WS_countMarks_22 (lv_at hl 0 rfl) ?_
    refine lv_if_eq (tgt := 30) C0.1 C0.2.1 d_WS_countMarks_24 (by decide) (fun c_24 => ?_) (fun c_24 => ?_)
    · rw [← cntN_n (bI_0.mp c_24)] at hl
      refine lv_iinc (v := nI (j + 1)) (lv' := [(4, .int (nI (j + 1))), (5, .int (bI (em j))), (0, .ref (a 6)), (1, .int (nI (cntN em (j + 1)))), (2, .ref (a 6)), (3, .int (nI 48))]) C0.1 C0.2.1 d_WS_countMarks_30 hl (k := 5) rfl (inc1 _) (by decide) rfl (fun ls hl => ?_)
      refine lv_goto (tgt := 10) C0.1 C0.2.1 d_WS_countMarks_33 (by decide) ?_
      exact ih_10 (j + 1) (show (j + 1) ≤ 48 from by omega) (show 48 - (j + 1) < 48 - j from by omega) ls (lv_sub hl [2, 3, 4, 5, 0] rfl)
    · refine lv_iinc (v := nI (cntN em (j + 1))) (lv' := [(1, .int (nI (cntN em (j + 1)))), (5, .int (bI (em j))), (0, .ref (a 6)), (2, .ref (a 6)), (3, .int (nI 48)), (4, .int (nI j))]) C0.1 C0.2.1 d_WS_countMarks_27 hl (k := 2) rfl (by rw [cntN_t (bI_n0.mp c_24)]; exact inc1 _) (by decide) rfl (fun ls hl => ?_)
      refine lv_iinc (v := nI (j + 1)) (lv' := [(4, .int (nI (j + 1))), (1, .int (nI (cntN em (j + 1)))), (5, .int (bI (em j))), (0, .ref (a 6)), (2, .ref (a 6)), (3, .int (nI 48))]) C0.1 C0.2.1 d_WS_countMarks_30 hl (k := 5) rfl (inc1 _) (by decide) rfl (fun ls hl => ?_)
      refine lv_goto (tgt := 10) C0.1 C0.2.1 d_WS_countMarks_33 (by decide) ?_
      exact ih_10 (j + 1) (show (j + 1) ≤ 48 from by omega) (show 48 - (j + 1) < 48 - j from by omega) ls (lv_sub hl [3, 1, 4, 5, 0] rfl)
set_option maxHeartbeats 4000000 in
set_option maxRecDepth 100000 in
theorem c_WS_countLooseThings (hn : n ≤ 48) (hnp : np ≤ 96) (hea : ∀ j, j < np → ea j < n) (heb : ∀ j, j < np → eb j < n) : Rd l y_WS_countLooseThings w_WS_countLooseThings ({ frames := 1, cells := 0, slots := 0, locals := 22 }) g classes (tyL t) [.ref (a 0)] (wW a t n kd em br ii oo np ea eb li rn wa wn sT sP ak ap af tt ac ct rp rt rest L) (some (.int (nI (cntN (fun v => !anyN (endB ea eb v) np) n)))) := by
  refine Rd.of (cc := b_WS_countLooseThings) (maxL := 3) (ret := (some .int)) (own := R_WS) (by decide) rfl rfl (Nat.le_of_ble_eq_true rfl) ?_
  intro p e s m args below meth c C0 hr hlk hP ls hl
  have hl : lv_has ls 3 [(0, .ref (a 0))] := hl
  refine lv_iconst (v := nI 0) C0.1 C0.2.1 d_WS_countLooseThings_0 (by decide) ?_
  refine lv_istore_n (lv' := [(1, .int (nI 0)), (0, .ref (a 0))]) C0.1 C0.2.1 d_WS_countLooseThings_1 rfl hl (by decide) rfl (fun ls hl => ?_)
  refine lv_iconst (v := nI 0) C0.1 C0.2.1 d_WS_countLooseThings_2 (by decide) ?_
  refine lv_istore_n (lv' := [(2, .int (nI 0)), (1, .int (nI 0)), (0, .ref (a 0))]) C0.1 C0.2.1 d_WS_countLooseThings_3 rfl hl (by decide) rfl (fun ls hl => ?_)
  refine wlR (σ := Nat) (head := 4) (fun z_ => n - z_) (fun z_ => z_ ≤ n) (fun z_ => [(0, .ref (a 0)), (1, .int (nI (cntN (fun v => !anyN (endB ea eb v) np) z_))), (2, .int (nI z_))]) ?_ 0 (show 0 ≤ n from Nat.zero_le _) (lv_sub hl [2, 1, 0] rfl)
  rintro j hi ih_4 ls hl
  have hi : j ≤ n := hi
  have hl : lv_has ls 3 [(0, .ref (a 0)), (1, .int (nI (cntN (fun v => !anyN (endB ea eb v) np) j))), (2, .int (nI j))] := hl
  refine lv_iload_n C0.1 C0.2.1 d_WS_countLooseThings_4 rfl (lv_at hl 2 rfl) ?_
  refine lv_aload_n C0.1 C0.2.1 d_WS_countLooseThings_5 rfl (lv_at hl 0 rfl) ?_
  refine gf_WS_20 C0 hP 0 rfl rfl d_WS_countLooseThings_6 ?_
  refine gf_WS_124 C0 hP 1 rfl rfl d_WS_countLooseThings_9 ?_
  refine lv_icmp_ge (tgt := 35) C0.1 C0.2.1 d_WS_countLooseThings_12 (by decide) (fun c_12 => ?_) (fun c_12 => ?_)
  · have hj : j = n := by have := (nI_leI (by omega) (by omega)).mp c_12; omega
    refine lv_iload_n C0.1 C0.2.1 d_WS_countLooseThings_35 rfl (lv_at hl 1 rfl) ?_
    exact eR_i C0 hr hlk (by rw [hj]) d_WS_countLooseThings_36
  · have hj : j < n := (nI_nle' (by omega) (by omega)).mp c_12
    refine lv_aload_n C0.1 C0.2.1 d_WS_countLooseThings_15 rfl (lv_at hl 0 rfl) ?_
    refine gf_WS_25 C0 hP 0 rfl rfl d_WS_countLooseThings_16 ?_
    refine lv_iload_n C0.1 C0.2.1 d_WS_countLooseThings_19 rfl (lv_at hl 2 rfl) ?_
    refine cR (As := [.int (nI j)]) (rest := []) C0 (c_PI_anyEndsAt j (by omega) hnp (fun i hi => by have := hea i hi; omega) (fun i hi => by have := heb i hi; omega)) (q_WS_144 C0.2.2.2.2.1 rfl rfl ⟨Nat.le_of_ble_eq_true rfl, Nat.le_of_ble_eq_true rfl⟩) (ci := 2) (q0 := 2) rfl rfl rfl hP hl.1 rfl rfl (Nat.le_of_ble_eq_true rfl) d_WS_countLooseThings_20 ⟨Nat.zero_le _, Nat.zero_le _⟩ ?_
    refine W.eq (g2 := F0 m 23 ls [.int (bI (anyN (endB ea eb j) np))]) rfl ?_
    refine lv_if_ne (tgt := 29) C0.1 C0.2.1 d_WS_countLooseThings_23 (by decide) (fun c_23 => ?_) (fun c_23 => ?_)
    · rw [← cntN_n (f := (fun v => !anyN (endB ea eb v) np)) (show (!anyN (endB ea eb j) np) = false by rw [bI_n0.mp c_23]; rfl)] at hl
      refine lv_iinc (v := nI (j + 1)) (lv' := [(2, .int (nI (j + 1))), (0, .ref (a 0)), (1, .int (nI (cntN (fun v => !anyN (endB ea eb v) np) (j + 1))))]) C0.1 C0.2.1 d_WS_countLooseThings_29 hl (k := 2) rfl (inc1 _) (by decide) rfl (fun ls hl => ?_)
      refine lv_goto (tgt := 4) C0.1 C0.2.1 d_WS_countLooseThings_32 (by decide) ?_
      exact ih_4 (j + 1) (show (j + 1) ≤ n from by omega) (show n - (j + 1) < n - j from by omega) ls (lv_sub hl [1, 2, 0] rfl)
    · refine lv_iinc (v := nI (cntN (fun v => !anyN (endB ea eb v) np) (j + 1))) (lv' := [(1, .int (nI (cntN (fun v => !anyN (endB ea eb v) np) (j + 1)))), (0, .ref (a 0)), (2, .int (nI j))]) C0.1 C0.2.1 d_WS_countLooseThings_26 hl (k := 1) rfl (by rw [cntN_t (f := (fun v => !anyN (endB ea eb v) np)) (show (!anyN (endB ea eb j) np) = true by rw [bI_0.mp c_23]; rfl)]; exact inc1 _) (by decide) rfl (fun ls hl => ?_)
      refine lv_iinc (v := nI (j + 1)) (lv' := [(2, .int (nI (j + 1))), (1, .int (nI (cntN (fun v => !anyN (endB ea eb v) np) (j + 1)))), (0, .ref (a 0))]) C0.1 C0.2.1 d_WS_countLooseThings_29 hl (k := 2) rfl (inc1 _) (by decide) rfl (fun ls hl => ?_)
      refine lv_goto (tgt := 4) C0.1 C0.2.1 d_WS_countLooseThings_32 (by decide) ?_
      exact ih_4 (j + 1) (show (j + 1) ≤ n from by omega) (show n - (j + 1) < n - j from by omega) ls (lv_sub hl [2, 1, 0] rfl)
set_option maxHeartbeats 4000000 in
set_option maxRecDepth 100000 in
theorem c_WS_refusalOfEnds (x y : Int32) (hn : n ≤ 48) (hk : ∀ j, kd j < 3) : Rd l y_WS_refusalOfEnds w_WS_refusalOfEnds ({ frames := 2, cells := 0, slots := 0, locals := 43 }) g classes (tyL t) [.ref (a 0), .int x, .int y] (wW a t n kd em br ii oo np ea eb li rn wa wn sT sP ak ap af tt ac ct rp rt rest L) (some (.int (refC n kd em x y))) := by
  refine Rd.of (cc := b_WS_refusalOfEnds) (maxL := 3) (ret := (some .int)) (own := R_WS) (by decide) rfl rfl (Nat.le_of_ble_eq_true rfl) ?_
  intro p e s m args below meth c C0 hr hlk hP ls hl
  have hl : lv_has ls 3 [(0, .ref (a 0)), (1, .int x), (2, .int y)] := hl
  refine lv_aload_n C0.1 C0.2.1 d_WS_refusalOfEnds_0 rfl (lv_at hl 0 rfl) ?_
  refine gf_WS_20 C0 hP 0 rfl rfl d_WS_refusalOfEnds_1 ?_
  refine lv_iload_n C0.1 C0.2.1 d_WS_refusalOfEnds_4 rfl (lv_at hl 1 rfl) ?_
  refine lv_iconst (v := nI 0) C0.1 C0.2.1 d_WS_refusalOfEnds_5 (by decide) ?_
  refine cR (As := [.int x, .int (nI 0)]) (rest := []) C0 (c_TH_isKind x 0 (by decide) hn hk) (q_WS_91 C0.2.2.2.2.1 rfl rfl ⟨Nat.le_of_ble_eq_true rfl, Nat.le_of_ble_eq_true rfl⟩) (ci := 1) (q0 := 1) rfl rfl rfl hP hl.1 rfl rfl (Nat.le_of_ble_eq_true rfl) d_WS_refusalOfEnds_6 ⟨Nat.zero_le _, Nat.zero_le _⟩ ?_
  refine W.eq (g2 := F0 m 9 ls [.int (bI (isK n kd x 0))]) rfl ?_
  refine lv_if_eq (tgt := 24) C0.1 C0.2.1 d_WS_refusalOfEnds_9 (by decide) (fun c_9 => ?_) (fun c_9 => ?_)
  · refine lv_bipush (v := -2) C0.1 C0.2.1 d_WS_refusalOfEnds_24 (by decide) ?_
    exact eR_i C0 hr hlk (by rw [refC_w (by rw [bI_0.mp c_9]; rfl)]) d_WS_refusalOfEnds_26
  · refine lv_aload_n C0.1 C0.2.1 d_WS_refusalOfEnds_12 rfl (lv_at hl 0 rfl) ?_
    refine gf_WS_20 C0 hP 0 rfl rfl d_WS_refusalOfEnds_13 ?_
    refine lv_iload_n C0.1 C0.2.1 d_WS_refusalOfEnds_16 rfl (lv_at hl 2 rfl) ?_
    refine lv_iconst (v := nI 0) C0.1 C0.2.1 d_WS_refusalOfEnds_17 (by decide) ?_
    refine cR (As := [.int y, .int (nI 0)]) (rest := []) C0 (c_TH_isKind y 0 (by decide) hn hk) (q_WS_91 C0.2.2.2.2.1 rfl rfl ⟨Nat.le_of_ble_eq_true rfl, Nat.le_of_ble_eq_true rfl⟩) (ci := 1) (q0 := 1) rfl rfl rfl hP hl.1 rfl rfl (Nat.le_of_ble_eq_true rfl) d_WS_refusalOfEnds_18 ⟨Nat.zero_le _, Nat.zero_le _⟩ ?_
    refine W.eq (g2 := F0 m 21 ls [.int (bI (isK n kd y 0))]) rfl ?_
    refine lv_if_ne (tgt := 27) C0.1 C0.2.1 d_WS_refusalOfEnds_21 (by decide) (fun c_21 => ?_) (fun c_21 => ?_)
    · refine lv_iload_n C0.1 C0.2.1 d_WS_refusalOfEnds_27 rfl (lv_at hl 1 rfl) ?_
      refine lv_iload_n C0.1 C0.2.1 d_WS_refusalOfEnds_28 rfl (lv_at hl 2 rfl) ?_
      refine lv_icmp_ne (tgt := 35) C0.1 C0.2.1 d_WS_refusalOfEnds_29 (by decide) (fun c_29 => ?_) (fun c_29 => ?_)
      · have c_9 := bI_n0.mp c_9
        have c_21 := bI_n0.mp c_21
        obtain ⟨i, hi, rfl, hki⟩ := isK_ex (by omega) c_9
        refine lv_aload_n C0.1 C0.2.1 d_WS_refusalOfEnds_35 rfl (lv_at hl 0 rfl) ?_
        refine gf_WS_20 C0 hP 0 rfl rfl d_WS_refusalOfEnds_36 ?_
        refine gf_WS_132 C0 hP 1 rfl rfl d_WS_refusalOfEnds_39 ?_
        refine lv_iload_n C0.1 C0.2.1 d_WS_refusalOfEnds_42 rfl (lv_at hl 1 rfl) ?_
        refine ald_z C0 hP 6 1 rfl rfl (by omega) (by decide) d_WS_refusalOfEnds_43 ?_
        refine lv_if_eq (tgt := 52) C0.1 C0.2.1 d_WS_refusalOfEnds_44 (by decide) (fun c_44 => ?_) (fun c_44 => ?_)
        · refine lv_iconst (v := nI 0) C0.1 C0.2.1 d_WS_refusalOfEnds_52 (by decide) ?_
          exact eR_i C0 hr hlk (by rw [refC_0 c_9 c_21 c_29 (by rw [nI_clamp (by omega)]; exact bI_0.mp c_44)]) d_WS_refusalOfEnds_53
        · refine lv_bipush (v := -4) C0.1 C0.2.1 d_WS_refusalOfEnds_47 (by decide) ?_
          refine lv_goto (tgt := 53) C0.1 C0.2.1 d_WS_refusalOfEnds_49 (by decide) ?_
          exact eR_i C0 hr hlk (by rw [refC_e c_9 c_21 c_29 (by rw [nI_clamp (by omega)]; exact bI_n0.mp c_44)]) d_WS_refusalOfEnds_53
      · refine lv_bipush (v := -3) C0.1 C0.2.1 d_WS_refusalOfEnds_32 (by decide) ?_
        exact eR_i C0 hr hlk (by rw [refC_s (bI_n0.mp c_9) (bI_n0.mp c_21) c_29]) d_WS_refusalOfEnds_34
    · refine lv_bipush (v := -2) C0.1 C0.2.1 d_WS_refusalOfEnds_24 (by decide) ?_
      exact eR_i C0 hr hlk (by rw [refC_w (by rw [bI_0.mp c_21, Bool.and_false])]) d_WS_refusalOfEnds_26
set_option maxHeartbeats 4000000 in
set_option maxRecDepth 100000 in
theorem c_WS_wayNumbered_no (x : Int32) (hwn : wn ≤ 64) (hno : hasB wn x = false) : Rd l y_WS_wayNumbered w_WS_wayNumbered ({ frames := 0, cells := 0, slots := 0, locals := 0 }) g classes (tyL t) [.ref (a 0), .int x] (wW a t n kd em br ii oo np ea eb li rn wa wn sT sP ak ap af tt ac ct rp rt rest L) (some .null) := by
  refine Rd.of (cc := b_WS_wayNumbered) (maxL := 2) (ret := (some (.object "WaySearch$FoundWay"))) (own := R_WS) (by decide) rfl rfl (Nat.le_of_ble_eq_true rfl) ?_
  intro p e s m args below meth c C0 hr hlk hP ls hl
  have hl : lv_has ls 2 [(0, .ref (a 0)), (1, .int x)] := hl
  refine lv_iload_n C0.1 C0.2.1 d_WS_wayNumbered_0 rfl (lv_at hl 1 rfl) ?_
  refine lv_if_lt (tgt := 21) C0.1 C0.2.1 d_WS_wayNumbered_1 (by decide) (fun c_1 => ?_) (fun c_1 => ?_)
  · refine lv_null C0.1 C0.2.1 d_WS_wayNumbered_21 ?_
    exact eR_a C0 hr (Or.inl ⟨_, rfl⟩) hlk (rfl) (Or.inl rfl) d_WS_wayNumbered_22
  · refine lv_iload_n C0.1 C0.2.1 d_WS_wayNumbered_4 rfl (lv_at hl 1 rfl) ?_
    refine lv_aload_n C0.1 C0.2.1 d_WS_wayNumbered_5 rfl (lv_at hl 0 rfl) ?_
    refine gf_WS_32 C0 hP 0 rfl rfl d_WS_wayNumbered_6 ?_
    refine lv_icmp_ge (tgt := 21) C0.1 C0.2.1 d_WS_wayNumbered_9 (by decide) (fun c_9 => ?_) (fun c_9 => ?_)
    · refine lv_null C0.1 C0.2.1 d_WS_wayNumbered_21 ?_
      exact eR_a C0 hr (Or.inl ⟨_, rfl⟩) hlk (rfl) (Or.inl rfl) d_WS_wayNumbered_22
    · exact absurd (hasB_t (by omega) c_1 c_9) (by rw [hno]; decide)
set_option maxHeartbeats 4000000 in
set_option maxRecDepth 100000 in
theorem c_WS_wayNumbered (i oa : Nat) (hwn : wn ≤ 64) (hi : i < wn) (hoa : wa i = some oa) : Rd l y_WS_wayNumbered w_WS_wayNumbered ({ frames := 0, cells := 0, slots := 0, locals := 0 }) g classes (tyL t) [.ref (a 0), .int (nI i)] (wW a t n kd em br ii oo np ea eb li rn wa wn sT sP ak ap af tt ac ct rp rt rest L) (some (.ref oa)) := by
  refine Rd.of (cc := b_WS_wayNumbered) (maxL := 2) (ret := (some (.object "WaySearch$FoundWay"))) (own := R_WS) (by decide) rfl rfl (Nat.le_of_ble_eq_true rfl) ?_
  intro p e s m args below meth c C0 hr hlk hP ls hl
  have hl : lv_has ls 2 [(0, .ref (a 0)), (1, .int (nI i))] := hl
  refine lv_iload_n C0.1 C0.2.1 d_WS_wayNumbered_0 rfl (lv_at hl 1 rfl) ?_
  refine lv_if_lt (tgt := 21) C0.1 C0.2.1 d_WS_wayNumbered_1 (by decide) (fun c_1 => ?_) (fun c_1 => ?_)
  · exact absurd c_1 (nI_pos (by omega))
  · refine lv_iload_n C0.1 C0.2.1 d_WS_wayNumbered_4 rfl (lv_at hl 1 rfl) ?_
    refine lv_aload_n C0.1 C0.2.1 d_WS_wayNumbered_5 rfl (lv_at hl 0 rfl) ?_
    refine gf_WS_32 C0 hP 0 rfl rfl d_WS_wayNumbered_6 ?_
    refine lv_icmp_ge (tgt := 21) C0.1 C0.2.1 d_WS_wayNumbered_9 (by decide) (fun c_9 => ?_) (fun c_9 => ?_)
    · exact absurd ((nI_leI (by omega) (by omega)).mp c_9) (by omega)
    · refine lv_aload_n C0.1 C0.2.1 d_WS_wayNumbered_12 rfl (lv_at hl 0 rfl) ?_
      refine gf_WS_28 C0 hP 0 rfl rfl d_WS_wayNumbered_13 ?_
      refine lv_iload_n C0.1 C0.2.1 d_WS_wayNumbered_16 rfl (lv_at hl 1 rfl) ?_
      refine ald_q C0 hP 4 3 rfl rfl (by omega) (by decide) d_WS_wayNumbered_17 ?_
      rw [hoa]
      refine W.eq (g2 := F0 m 18 ls [.ref oa]) rfl ?_
      refine lv_goto (tgt := 22) C0.1 C0.2.1 d_WS_wayNumbered_18 (by decide) ?_
      exact eR_a C0 hr (Or.inl ⟨_, rfl⟩) hlk (rfl) (Or.inr ⟨_, rfl⟩) d_WS_wayNumbered_22
set_option maxHeartbeats 4000000 in
set_option maxRecDepth 100000 in
theorem c_WS_tank_full (b0 : Bool) (hn : n = 48) : Rd l y_WS_tank w_WS_tank ({ frames := 1, cells := 0, slots := 0, locals := 22 }) g classes (tyL t) [.ref (a 0), .int (bI b0)] (wW a t n kd em br ii oo np ea eb li rn wa wn sT sP ak ap af tt ac ct rp rt rest L) (some (.int (-5))) := by
  refine Rd.of (cc := b_WS_tank) (maxL := 2) (ret := (some .int)) (own := R_WS) (by decide) rfl rfl (Nat.le_of_ble_eq_true rfl) ?_
  intro p e s m args below meth c C0 hr hlk hP ls hl
  have hl : lv_has ls 2 [(0, .ref (a 0)), (1, .int (bI b0))] := hl
  refine lv_aload_n C0.1 C0.2.1 d_WS_tank_0 rfl (lv_at hl 0 rfl) ?_
  refine gf_WS_20 C0 hP 0 rfl rfl d_WS_tank_1 ?_
  refine lv_iconst (v := nI 0) C0.1 C0.2.1 d_WS_tank_4 (by decide) ?_
  refine lv_iload_n C0.1 C0.2.1 d_WS_tank_5 rfl (lv_at hl 1 rfl) ?_
  refine cR (As := [.int (nI 0), .int (bI b0)]) (rest := []) C0 (c_TH_add_full (nI 0) b0 hn) (q_WS_36 C0.2.2.2.2.1 rfl rfl ⟨Nat.le_of_ble_eq_true rfl, Nat.le_of_ble_eq_true rfl⟩) (ci := 1) (q0 := 1) rfl rfl rfl hP hl.1 rfl rfl (Nat.le_of_ble_eq_true rfl) d_WS_tank_6 ⟨Nat.zero_le _, Nat.zero_le _⟩ ?_
  refine W.eq (g2 := F0 m 9 ls [.int (-5)]) rfl ?_
  exact eR_i C0 hr hlk (rfl) d_WS_tank_9
set_option maxHeartbeats 4000000 in
set_option maxRecDepth 100000 in
theorem c_WS_tank (b0 : Bool) (hn : n < 48) : Mt l y_WS_tank w_WS_tank ({ frames := 1, cells := 0, slots := 0, locals := 22 }) g classes (tyL t) [.ref (a 0), .int (bI b0)] (wW a t n kd em br ii oo np ea eb li rn wa wn sT sP ak ap af tt ac ct rp rt rest L) (S := Unit) (fun v _ => v = some (.int (nI n))) (fun _ => (wW a t (n + 1) (va_up kd n 0) (va_up em n b0) br (va_up ii n (-1)) (va_up oo n (-1)) np ea eb li rn wa wn sT sP ak ap af tt ac ct rp rt rest L)) 0 0 := by
  refine Mt.of (cc := b_WS_tank) (maxL := 2) (ret := (some .int)) (own := R_WS) (by decide) rfl rfl (Nat.le_of_ble_eq_true rfl) ?_
  intro p e s m args below meth c C0 hr hlk hin A hA hB ls hl
  have hl : lv_has ls 2 [(0, .ref (a 0)), (1, .int (bI b0))] := hl
  refine lv_aload_n C0.1 C0.2.1 d_WS_tank_0 rfl (lv_at hl 0 rfl) ?_
  refine gf_WS_20 C0 hB.1 0 rfl rfl d_WS_tank_1 ?_
  refine lv_iconst (v := nI 0) C0.1 C0.2.1 d_WS_tank_4 (by decide) ?_
  refine lv_iload_n C0.1 C0.2.1 d_WS_tank_5 rfl (lv_at hl 1 rfl) ?_
  refine cM (As := [.int (nI 0), .int (bI b0)]) (rest := []) C0 (c_TH_add 0 b0 hn) (q_WS_36 C0.2.2.2.2.1 rfl rfl ⟨Nat.le_of_ble_eq_true rfl, Nat.le_of_ble_eq_true rfl⟩) (ci := 1) (q0 := 1) rfl rfl rfl hB hl.1 rfl rfl (Nat.le_of_ble_eq_true rfl) d_WS_tank_6 ⟨Nat.zero_le _, Nat.zero_le _⟩ (fun v_6 u_6 H locs hp_6 hB => ?_)
  obtain rfl := hp_6
  have hB : wB g classes A s.heap (wW a t (n + 1) (va_up kd n 0) (va_up em n b0) br (va_up ii n (-1)) (va_up oo n (-1)) np ea eb li rn wa wn sT sP ak ap af tt ac ct rp rt rest L) H locs := hB
  refine W.eq (g2 := F0 m 9 ls [.int (nI n)]) rfl ?_
  exact eM_i C0 hr hlk () hB (rfl) (Nat.le_refl _) (Nat.le_refl _) d_WS_tank_9
set_option maxHeartbeats 4000000 in
set_option maxRecDepth 100000 in
theorem c_WS_pump_full (hn : n = 48) : Rd l y_WS_pump w_WS_pump ({ frames := 1, cells := 0, slots := 0, locals := 22 }) g classes (tyL t) [.ref (a 0)] (wW a t n kd em br ii oo np ea eb li rn wa wn sT sP ak ap af tt ac ct rp rt rest L) (some (.int (-5))) := by
  refine Rd.of (cc := b_WS_pump) (maxL := 1) (ret := (some .int)) (own := R_WS) (by decide) rfl rfl (Nat.le_of_ble_eq_true rfl) ?_
  intro p e s m args below meth c C0 hr hlk hP ls hl
  have hl : lv_has ls 1 [(0, .ref (a 0))] := hl
  refine lv_aload_n C0.1 C0.2.1 d_WS_pump_0 rfl (lv_at hl 0 rfl) ?_
  refine gf_WS_20 C0 hP 0 rfl rfl d_WS_pump_1 ?_
  refine lv_iconst (v := nI 1) C0.1 C0.2.1 d_WS_pump_4 (by decide) ?_
  refine lv_iconst (v := bI false) C0.1 C0.2.1 d_WS_pump_5 (by decide) ?_
  refine cR (As := [.int (nI 1), .int (bI false)]) (rest := []) C0 (c_TH_add_full (nI 1) false hn) (q_WS_36 C0.2.2.2.2.1 rfl rfl ⟨Nat.le_of_ble_eq_true rfl, Nat.le_of_ble_eq_true rfl⟩) (ci := 1) (q0 := 1) rfl rfl rfl hP hl.1 rfl rfl (Nat.le_of_ble_eq_true rfl) d_WS_pump_6 ⟨Nat.zero_le _, Nat.zero_le _⟩ ?_
  refine W.eq (g2 := F0 m 9 ls [.int (-5)]) rfl ?_
  exact eR_i C0 hr hlk (rfl) d_WS_pump_9
set_option maxHeartbeats 4000000 in
set_option maxRecDepth 100000 in
theorem c_WS_pump (hn : n < 48) : Mt l y_WS_pump w_WS_pump ({ frames := 1, cells := 0, slots := 0, locals := 22 }) g classes (tyL t) [.ref (a 0)] (wW a t n kd em br ii oo np ea eb li rn wa wn sT sP ak ap af tt ac ct rp rt rest L) (S := Unit) (fun v _ => v = some (.int (nI n))) (fun _ => (wW a t (n + 1) (va_up kd n 1) (va_up em n false) br (va_up ii n (-1)) (va_up oo n (-1)) np ea eb li rn wa wn sT sP ak ap af tt ac ct rp rt rest L)) 0 0 := by
  refine Mt.of (cc := b_WS_pump) (maxL := 1) (ret := (some .int)) (own := R_WS) (by decide) rfl rfl (Nat.le_of_ble_eq_true rfl) ?_
  intro p e s m args below meth c C0 hr hlk hin A hA hB ls hl
  have hl : lv_has ls 1 [(0, .ref (a 0))] := hl
  refine lv_aload_n C0.1 C0.2.1 d_WS_pump_0 rfl (lv_at hl 0 rfl) ?_
  refine gf_WS_20 C0 hB.1 0 rfl rfl d_WS_pump_1 ?_
  refine lv_iconst (v := nI 1) C0.1 C0.2.1 d_WS_pump_4 (by decide) ?_
  refine lv_iconst (v := bI false) C0.1 C0.2.1 d_WS_pump_5 (by decide) ?_
  refine cM (As := [.int (nI 1), .int (bI false)]) (rest := []) C0 (c_TH_add 1 false hn) (q_WS_36 C0.2.2.2.2.1 rfl rfl ⟨Nat.le_of_ble_eq_true rfl, Nat.le_of_ble_eq_true rfl⟩) (ci := 1) (q0 := 1) rfl rfl rfl hB hl.1 rfl rfl (Nat.le_of_ble_eq_true rfl) d_WS_pump_6 ⟨Nat.zero_le _, Nat.zero_le _⟩ (fun v_6 u_6 H locs hp_6 hB => ?_)
  obtain rfl := hp_6
  have hB : wB g classes A s.heap (wW a t (n + 1) (va_up kd n 1) (va_up em n false) br (va_up ii n (-1)) (va_up oo n (-1)) np ea eb li rn wa wn sT sP ak ap af tt ac ct rp rt rest L) H locs := hB
  refine W.eq (g2 := F0 m 9 ls [.int (nI n)]) rfl ?_
  exact eM_i C0 hr hlk () hB (rfl) (Nat.le_refl _) (Nat.le_refl _) d_WS_pump_9
set_option maxHeartbeats 4000000 in
set_option maxRecDepth 100000 in
theorem c_WS_valve_full (hn : n = 48) : Rd l y_WS_valve w_WS_valve ({ frames := 1, cells := 0, slots := 0, locals := 22 }) g classes (tyL t) [.ref (a 0)] (wW a t n kd em br ii oo np ea eb li rn wa wn sT sP ak ap af tt ac ct rp rt rest L) (some (.int (-5))) := by
  refine Rd.of (cc := b_WS_valve) (maxL := 1) (ret := (some .int)) (own := R_WS) (by decide) rfl rfl (Nat.le_of_ble_eq_true rfl) ?_
  intro p e s m args below meth c C0 hr hlk hP ls hl
  have hl : lv_has ls 1 [(0, .ref (a 0))] := hl
  refine lv_aload_n C0.1 C0.2.1 d_WS_valve_0 rfl (lv_at hl 0 rfl) ?_
  refine gf_WS_20 C0 hP 0 rfl rfl d_WS_valve_1 ?_
  refine lv_iconst (v := nI 2) C0.1 C0.2.1 d_WS_valve_4 (by decide) ?_
  refine lv_iconst (v := bI false) C0.1 C0.2.1 d_WS_valve_5 (by decide) ?_
  refine cR (As := [.int (nI 2), .int (bI false)]) (rest := []) C0 (c_TH_add_full (nI 2) false hn) (q_WS_36 C0.2.2.2.2.1 rfl rfl ⟨Nat.le_of_ble_eq_true rfl, Nat.le_of_ble_eq_true rfl⟩) (ci := 1) (q0 := 1) rfl rfl rfl hP hl.1 rfl rfl (Nat.le_of_ble_eq_true rfl) d_WS_valve_6 ⟨Nat.zero_le _, Nat.zero_le _⟩ ?_
  refine W.eq (g2 := F0 m 9 ls [.int (-5)]) rfl ?_
  exact eR_i C0 hr hlk (rfl) d_WS_valve_9
set_option maxHeartbeats 4000000 in
set_option maxRecDepth 100000 in
theorem c_WS_valve (hn : n < 48) : Mt l y_WS_valve w_WS_valve ({ frames := 1, cells := 0, slots := 0, locals := 22 }) g classes (tyL t) [.ref (a 0)] (wW a t n kd em br ii oo np ea eb li rn wa wn sT sP ak ap af tt ac ct rp rt rest L) (S := Unit) (fun v _ => v = some (.int (nI n))) (fun _ => (wW a t (n + 1) (va_up kd n 2) (va_up em n false) br (va_up ii n (-1)) (va_up oo n (-1)) np ea eb li rn wa wn sT sP ak ap af tt ac ct rp rt rest L)) 0 0 := by
  refine Mt.of (cc := b_WS_valve) (maxL := 1) (ret := (some .int)) (own := R_WS) (by decide) rfl rfl (Nat.le_of_ble_eq_true rfl) ?_
  intro p e s m args below meth c C0 hr hlk hin A hA hB ls hl
  have hl : lv_has ls 1 [(0, .ref (a 0))] := hl
  refine lv_aload_n C0.1 C0.2.1 d_WS_valve_0 rfl (lv_at hl 0 rfl) ?_
  refine gf_WS_20 C0 hB.1 0 rfl rfl d_WS_valve_1 ?_
  refine lv_iconst (v := nI 2) C0.1 C0.2.1 d_WS_valve_4 (by decide) ?_
  refine lv_iconst (v := bI false) C0.1 C0.2.1 d_WS_valve_5 (by decide) ?_
  refine cM (As := [.int (nI 2), .int (bI false)]) (rest := []) C0 (c_TH_add 2 false hn) (q_WS_36 C0.2.2.2.2.1 rfl rfl ⟨Nat.le_of_ble_eq_true rfl, Nat.le_of_ble_eq_true rfl⟩) (ci := 1) (q0 := 1) rfl rfl rfl hB hl.1 rfl rfl (Nat.le_of_ble_eq_true rfl) d_WS_valve_6 ⟨Nat.zero_le _, Nat.zero_le _⟩ (fun v_6 u_6 H locs hp_6 hB => ?_)
  obtain rfl := hp_6
  have hB : wB g classes A s.heap (wW a t (n + 1) (va_up kd n 2) (va_up em n false) br (va_up ii n (-1)) (va_up oo n (-1)) np ea eb li rn wa wn sT sP ak ap af tt ac ct rp rt rest L) H locs := hB
  refine W.eq (g2 := F0 m 9 ls [.int (nI n)]) rfl ?_
  exact eM_i C0 hr hlk () hB (rfl) (Nat.le_refl _) (Nat.le_refl _) d_WS_valve_9
end CALLS1

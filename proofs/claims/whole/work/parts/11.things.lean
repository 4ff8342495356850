section THINGS
variable {l : Launch} {g : va_G} {t : Nat → ClassId} {a : Nat → Nat} {n : Nat} {kd : Nat → Nat} {em : Nat → Bool} {br : Nat → Bool} {ii : Nat → Int32} {oo : Nat → Int32} {np : Nat} {ea : Nat → Nat} {eb : Nat → Nat} {li : Nat → Nat} {rn : Nat → Bool} {wa : Nat → Option Nat} {wn : Nat} {sT : Nat → Bool} {sP : Nat → Bool} {ak : Nat} {ap : Nat → Nat} {af : Nat → Nat} {tt : Nat → Nat} {ac : Nat → Nat} {ct : Nat → Nat} {rp : Nat → Nat} {rt : Nat → Nat} {rest : va_W} {L : List Wy}
set_option maxHeartbeats 4000000 in
set_option maxRecDepth 100000 in
theorem c_TH_has (x : Int32) (hn : n ≤ 48) : Rd l y_TH_has w_TH_has ({ frames := 0, cells := 0, slots := 0, locals := 0 }) g classes (tyL t) [.ref (a 1), .int x] (wW a t n kd em br ii oo np ea eb li rn wa wn sT sP ak ap af tt ac ct rp rt rest L) (some (.int (bI (hasB n x)))) := by
  refine Rd.of (cc := b_TH_has) (maxL := 2) (ret := (some .boolean)) (own := R_TH) (by decide) rfl rfl (Nat.le_of_ble_eq_true rfl) ?_
  intro p e s m args below meth c C0 hr hlk hP ls hl
  have hl : lv_has ls 2 [(0, .ref (a 1)), (1, .int x)] := hl
  refine lv_iload_n C0.1 C0.2.1 d_TH_has_0 rfl (lv_at hl 1 rfl) ?_
  refine lv_if_lt (tgt := 16) C0.1 C0.2.1 d_TH_has_1 (by decide) (fun c_1 => ?_) (fun c_1 => ?_)
  · refine lv_iconst (v := nI 0) C0.1 C0.2.1 d_TH_has_16 (by decide) ?_
    exact eR_z C0 hr hlk (b := hasB n x) (by rw [hasB_neg c_1]; rfl) rfl d_TH_has_17
  · refine lv_iload_n C0.1 C0.2.1 d_TH_has_4 rfl (lv_at hl 1 rfl) ?_
    refine lv_aload_n C0.1 C0.2.1 d_TH_has_5 rfl (lv_at hl 0 rfl) ?_
    refine gf_TH_28 C0 hP 1 rfl rfl d_TH_has_6 ?_
    refine lv_icmp_ge (tgt := 16) C0.1 C0.2.1 d_TH_has_9 (by decide) (fun c_9 => ?_) (fun c_9 => ?_)
    · refine lv_iconst (v := nI 0) C0.1 C0.2.1 d_TH_has_16 (by decide) ?_
      exact eR_z C0 hr hlk (b := hasB n x) (by rw [hasB_ge (by omega) c_9]; rfl) rfl d_TH_has_17
    · refine lv_iconst (v := nI 1) C0.1 C0.2.1 d_TH_has_12 (by decide) ?_
      refine lv_goto (tgt := 17) C0.1 C0.2.1 d_TH_has_13 (by decide) ?_
      exact eR_z C0 hr hlk (b := hasB n x) (by rw [hasB_t (by omega) c_1 c_9]; rfl) rfl d_TH_has_17
set_option maxHeartbeats 4000000 in
set_option maxRecDepth 100000 in
theorem c_PI_has (x : Int32) (hn : np ≤ 96) : Rd l y_PI_has w_PI_has ({ frames := 0, cells := 0, slots := 0, locals := 0 }) g classes (tyL t) [.ref (a 2), .int x] (wW a t n kd em br ii oo np ea eb li rn wa wn sT sP ak ap af tt ac ct rp rt rest L) (some (.int (bI (hasB np x)))) := by
  refine Rd.of (cc := b_PI_has) (maxL := 2) (ret := (some .boolean)) (own := R_PI) (by decide) rfl rfl (Nat.le_of_ble_eq_true rfl) ?_
  intro p e s m args below meth c C0 hr hlk hP ls hl
  have hl : lv_has ls 2 [(0, .ref (a 2)), (1, .int x)] := hl
  refine lv_iload_n C0.1 C0.2.1 d_PI_has_0 rfl (lv_at hl 1 rfl) ?_
  refine lv_if_lt (tgt := 16) C0.1 C0.2.1 d_PI_has_1 (by decide) (fun c_1 => ?_) (fun c_1 => ?_)
  · refine lv_iconst (v := nI 0) C0.1 C0.2.1 d_PI_has_16 (by decide) ?_
    exact eR_z C0 hr hlk (b := hasB np x) (by rw [hasB_neg c_1]; rfl) rfl d_PI_has_17
  · refine lv_iload_n C0.1 C0.2.1 d_PI_has_4 rfl (lv_at hl 1 rfl) ?_
    refine lv_aload_n C0.1 C0.2.1 d_PI_has_5 rfl (lv_at hl 0 rfl) ?_
    refine gf_PI_26 C0 hP 2 rfl rfl d_PI_has_6 ?_
    refine lv_icmp_ge (tgt := 16) C0.1 C0.2.1 d_PI_has_9 (by decide) (fun c_9 => ?_) (fun c_9 => ?_)
    · refine lv_iconst (v := nI 0) C0.1 C0.2.1 d_PI_has_16 (by decide) ?_
      exact eR_z C0 hr hlk (b := hasB np x) (by rw [hasB_ge (by omega) c_9]; rfl) rfl d_PI_has_17
    · refine lv_iconst (v := nI 1) C0.1 C0.2.1 d_PI_has_12 (by decide) ?_
      refine lv_goto (tgt := 17) C0.1 C0.2.1 d_PI_has_13 (by decide) ?_
      exact eR_z C0 hr hlk (b := hasB np x) (by rw [hasB_t (by omega) c_1 c_9]; rfl) rfl d_PI_has_17
set_option maxHeartbeats 4000000 in
set_option maxRecDepth 100000 in
theorem c_TH_isKind (x : Int32) (w0 : Nat) (hw : w0 < 3) (hn : n ≤ 48) (hk : ∀ j, kd j < 3) : Rd l y_TH_isKind w_TH_isKind ({ frames := 1, cells := 0, slots := 0, locals := 21 }) g classes (tyL t) [.ref (a 1), .int x, .int (nI w0)] (wW a t n kd em br ii oo np ea eb li rn wa wn sT sP ak ap af tt ac ct rp rt rest L) (some (.int (bI (isK n kd x w0)))) := by
  refine Rd.of (cc := b_TH_isKind) (maxL := 3) (ret := (some .boolean)) (own := R_TH) (by decide) rfl rfl (Nat.le_of_ble_eq_true rfl) ?_
  intro p e s m args below meth c C0 hr hlk hP ls hl
  have hl : lv_has ls 3 [(0, .ref (a 1)), (1, .int x), (2, .int (nI w0))] := hl
  refine lv_aload_n C0.1 C0.2.1 d_TH_isKind_0 rfl (lv_at hl 0 rfl) ?_
  refine lv_iload_n C0.1 C0.2.1 d_TH_isKind_1 rfl (lv_at hl 1 rfl) ?_
  refine cR (As := [.int x]) (rest := []) C0 (c_TH_has x hn) (q_TH_32 C0.2.2.2.2.1 rfl rfl ⟨Nat.le_of_ble_eq_true rfl, Nat.le_of_ble_eq_true rfl⟩) (ci := 1) (q0 := 1) rfl rfl rfl hP hl.1 rfl rfl (Nat.le_of_ble_eq_true rfl) d_TH_isKind_2 ⟨Nat.zero_le _, Nat.zero_le _⟩ ?_
  refine W.eq (g2 := F0 m 5 ls [.int (bI (hasB n x))]) rfl ?_
  refine lv_if_eq (tgt := 22) C0.1 C0.2.1 d_TH_isKind_5 (by decide) (fun c_5 => ?_) (fun c_5 => ?_)
  · refine lv_iconst (v := nI 0) C0.1 C0.2.1 d_TH_isKind_22 (by decide) ?_
    exact eR_z C0 hr hlk (b := isK n kd x w0) (by rw [isK_n (bI_0.mp c_5)]; rfl) rfl d_TH_isKind_23
  · have c_5 := bI_n0.mp c_5
    obtain ⟨j, hj, rfl⟩ := hasB_ex (by omega) c_5
    rw [hasB_nI (by omega)] at c_5
    refine lv_aload_n C0.1 C0.2.1 d_TH_isKind_8 rfl (lv_at hl 0 rfl) ?_
    refine gf_TH_9 C0 hP 1 rfl rfl d_TH_isKind_9 ?_
    refine lv_iload_n C0.1 C0.2.1 d_TH_isKind_12 rfl (lv_at hl 1 rfl) ?_
    refine ald_i C0 hP 5 0 rfl rfl (by omega) (by decide) d_TH_isKind_13 ?_
    refine lv_iload_n C0.1 C0.2.1 d_TH_isKind_14 rfl (lv_at hl 2 rfl) ?_
    refine lv_icmp_ne (tgt := 22) C0.1 C0.2.1 d_TH_isKind_15 (by decide) (fun c_15 => ?_) (fun c_15 => ?_)
    · refine lv_iconst (v := nI 0) C0.1 C0.2.1 d_TH_isKind_22 (by decide) ?_
      exact eR_z C0 hr hlk (b := isK n kd (nI j) w0) (by rw [isK_j hj (by have := hk j; omega) (by omega)]; rw [decide_eq_false (fun q => c_15 (by rw [q]))]; rfl) rfl d_TH_isKind_23
    · refine lv_iconst (v := nI 1) C0.1 C0.2.1 d_TH_isKind_18 (by decide) ?_
      refine lv_goto (tgt := 23) C0.1 C0.2.1 d_TH_isKind_19 (by decide) ?_
      exact eR_z C0 hr hlk (b := isK n kd (nI j) w0) (by rw [isK_j hj (by have := hk j; omega) (by omega)]; rw [decide_eq_true ((nI_eq (by have := hk j; omega) (by omega)).mp c_15)]; rfl) rfl d_TH_isKind_23
set_option maxHeartbeats 4000000 in
set_option maxRecDepth 100000 in
theorem c_TH_letFlow (u v : Nat) (hu : u < 48) (hv : v < 48) (hk : ∀ j, kd j < 3) : Rd l y_TH_letFlow w_TH_letFlow ({ frames := 0, cells := 0, slots := 0, locals := 0 }) g classes (tyL t) [.ref (a 1), .int (nI u), .int (nI v)] (wW a t n kd em br ii oo np ea eb li rn wa wn sT sP ak ap af tt ac ct rp rt rest L) (some (.int (bI (letB kd ii oo u v)))) := by
  refine Rd.of (cc := b_TH_letFlow) (maxL := 5) (ret := (some .boolean)) (own := R_TH) (by decide) rfl rfl (Nat.le_of_ble_eq_true rfl) ?_
  intro p e s m args below meth c C0 hr hlk hP ls hl
  have hl : lv_has ls 5 [(0, .ref (a 1)), (1, .int (nI u)), (2, .int (nI v))] := hl
  refine wcut (g2 := F0 m 25 ls [.int (bI (decide (kd u ≠ 1) || decide (oo u = nI v)))]) ?_ (fun T25 => ?_)
  · refine lv_istore_n (lv' := [(3, .int (bI (decide (kd u ≠ 1) || decide (oo u = nI v)))), (0, .ref (a 1)), (1, .int (nI u)), (2, .int (nI v))]) C0.1 C0.2.1 d_TH_letFlow_25 rfl hl (by decide) rfl (fun ls hl => ?_)
    refine wcut (g2 := F0 m 51 ls [.int (bI (decide (kd v ≠ 1) || decide (ii v = nI u)))]) ?_ (fun T51 => ?_)
    · refine lv_istore (lv' := [(4, .int (bI (decide (kd v ≠ 1) || decide (ii v = nI u)))), (3, .int (bI (decide (kd u ≠ 1) || decide (oo u = nI v)))), (0, .ref (a 1)), (1, .int (nI u)), (2, .int (nI v))]) C0.1 C0.2.1 d_TH_letFlow_51 hl (by decide) rfl (fun ls hl => ?_)
      refine lv_iload_n C0.1 C0.2.1 d_TH_letFlow_53 rfl (lv_at hl 1 rfl) ?_
      refine lv_if_eq (tgt := 66) C0.1 C0.2.1 d_TH_letFlow_54 (by decide) (fun c_54 => ?_) (fun c_54 => ?_)
      · refine lv_iconst (v := nI 0) C0.1 C0.2.1 d_TH_letFlow_66 (by decide) ?_
        exact eR_z C0 hr hlk (b := letB kd ii oo u v) (by unfold letB; rw [bI_0.mp c_54]; rfl) rfl d_TH_letFlow_67
      · refine lv_iload C0.1 C0.2.1 d_TH_letFlow_57 (lv_at hl 0 rfl) ?_
        refine lv_if_eq (tgt := 66) C0.1 C0.2.1 d_TH_letFlow_59 (by decide) (fun c_59 => ?_) (fun c_59 => ?_)
        · refine lv_iconst (v := nI 0) C0.1 C0.2.1 d_TH_letFlow_66 (by decide) ?_
          exact eR_z C0 hr hlk (b := letB kd ii oo u v) (by unfold letB; rw [bI_0.mp c_59, Bool.and_false]; rfl) rfl d_TH_letFlow_67
        · refine lv_iconst (v := nI 1) C0.1 C0.2.1 d_TH_letFlow_62 (by decide) ?_
          refine lv_goto (tgt := 67) C0.1 C0.2.1 d_TH_letFlow_63 (by decide) ?_
          exact eR_z C0 hr hlk (b := letB kd ii oo u v) (by unfold letB; rw [bI_n0.mp c_54, bI_n0.mp c_59]; rfl) rfl d_TH_letFlow_67
    · refine lv_aload_n C0.1 C0.2.1 d_TH_letFlow_26 rfl (lv_at hl 1 rfl) ?_
      refine gf_TH_9 C0 hP 1 rfl rfl d_TH_letFlow_27 ?_
      refine lv_iload_n C0.1 C0.2.1 d_TH_letFlow_30 rfl (lv_at hl 3 rfl) ?_
      refine ald_i C0 hP 5 0 rfl rfl (by omega) (by decide) d_TH_letFlow_31 ?_
      refine lv_iconst (v := nI 1) C0.1 C0.2.1 d_TH_letFlow_32 (by decide) ?_
      refine lv_icmp_ne (tgt := 46) C0.1 C0.2.1 d_TH_letFlow_33 (by decide) (fun c_33 => ?_) (fun c_33 => ?_)
      · refine lv_iconst (v := nI 1) C0.1 C0.2.1 d_TH_letFlow_46 (by decide) ?_
        refine lv_goto (tgt := 51) C0.1 C0.2.1 d_TH_letFlow_47 (by decide) ?_
        exact ti (show nI 1 = bI (decide (kd v ≠ 1) || decide (ii v = nI u)) from by rw [lb_1 c_33]; rfl) T51
      · refine lv_aload_n C0.1 C0.2.1 d_TH_letFlow_36 rfl (lv_at hl 1 rfl) ?_
        refine gf_TH_22 C0 hP 1 rfl rfl d_TH_letFlow_37 ?_
        refine lv_iload_n C0.1 C0.2.1 d_TH_letFlow_40 rfl (lv_at hl 3 rfl) ?_
        refine ald_i C0 hP 8 0 rfl rfl (by omega) (by decide) d_TH_letFlow_41 ?_
        refine lv_iload_n C0.1 C0.2.1 d_TH_letFlow_42 rfl (lv_at hl 2 rfl) ?_
        refine lv_icmp_ne (tgt := 50) C0.1 C0.2.1 d_TH_letFlow_43 (by decide) (fun c_43 => ?_) (fun c_43 => ?_)
        · refine lv_iconst (v := nI 0) C0.1 C0.2.1 d_TH_letFlow_50 (by decide) ?_
          exact ti (show nI 0 = bI (decide (kd v ≠ 1) || decide (ii v = nI u)) from by rw [lb_3 (by have := hk v; omega) c_33 c_43]; rfl) T51
        · refine lv_iconst (v := nI 1) C0.1 C0.2.1 d_TH_letFlow_46 (by decide) ?_
          refine lv_goto (tgt := 51) C0.1 C0.2.1 d_TH_letFlow_47 (by decide) ?_
          exact ti (show nI 1 = bI (decide (kd v ≠ 1) || decide (ii v = nI u)) from by rw [lb_2 c_43]; rfl) T51
  · refine lv_aload_n C0.1 C0.2.1 d_TH_letFlow_0 rfl (lv_at hl 0 rfl) ?_
    refine gf_TH_9 C0 hP 1 rfl rfl d_TH_letFlow_1 ?_
    refine lv_iload_n C0.1 C0.2.1 d_TH_letFlow_4 rfl (lv_at hl 1 rfl) ?_
    refine ald_i C0 hP 5 0 rfl rfl (by omega) (by decide) d_TH_letFlow_5 ?_
    refine lv_iconst (v := nI 1) C0.1 C0.2.1 d_TH_letFlow_6 (by decide) ?_
    refine lv_icmp_ne (tgt := 20) C0.1 C0.2.1 d_TH_letFlow_7 (by decide) (fun c_7 => ?_) (fun c_7 => ?_)
    · refine lv_iconst (v := nI 1) C0.1 C0.2.1 d_TH_letFlow_20 (by decide) ?_
      refine lv_goto (tgt := 25) C0.1 C0.2.1 d_TH_letFlow_21 (by decide) ?_
      exact ti (show nI 1 = bI (decide (kd u ≠ 1) || decide (oo u = nI v)) from by rw [lb_1 c_7]; rfl) T25
    · refine lv_aload_n C0.1 C0.2.1 d_TH_letFlow_10 rfl (lv_at hl 0 rfl) ?_
      refine gf_TH_25 C0 hP 1 rfl rfl d_TH_letFlow_11 ?_
      refine lv_iload_n C0.1 C0.2.1 d_TH_letFlow_14 rfl (lv_at hl 1 rfl) ?_
      refine ald_i C0 hP 9 0 rfl rfl (by omega) (by decide) d_TH_letFlow_15 ?_
      refine lv_iload_n C0.1 C0.2.1 d_TH_letFlow_16 rfl (lv_at hl 2 rfl) ?_
      refine lv_icmp_ne (tgt := 24) C0.1 C0.2.1 d_TH_letFlow_17 (by decide) (fun c_17 => ?_) (fun c_17 => ?_)
      · refine lv_iconst (v := nI 0) C0.1 C0.2.1 d_TH_letFlow_24 (by decide) ?_
        exact ti (show nI 0 = bI (decide (kd u ≠ 1) || decide (oo u = nI v)) from by rw [lb_3 (by have := hk u; omega) c_7 c_17]; rfl) T25
      · refine lv_iconst (v := nI 1) C0.1 C0.2.1 d_TH_letFlow_20 (by decide) ?_
        refine lv_goto (tgt := 25) C0.1 C0.2.1 d_TH_letFlow_21 (by decide) ?_
        exact ti (show nI 1 = bI (decide (kd u ≠ 1) || decide (oo u = nI v)) from by rw [lb_2 c_17]; rfl) T25
set_option maxHeartbeats 4000000 in
set_option maxRecDepth 100000 in
theorem c_TH_add_full (k0 : Int32) (b0 : Bool) (hn : n = 48) : Rd l y_TH_add w_TH_add ({ frames := 0, cells := 0, slots := 0, locals := 0 }) g classes (tyL t) [.ref (a 1), .int k0, .int (bI b0)] (wW a t n kd em br ii oo np ea eb li rn wa wn sT sP ak ap af tt ac ct rp rt rest L) (some (.int (-5))) := by
  refine Rd.of (cc := b_TH_add) (maxL := 3) (ret := (some .int)) (own := R_TH) (by decide) rfl rfl (Nat.le_of_ble_eq_true rfl) ?_
  intro p e s m args below meth c C0 hr hlk hP ls hl
  have hl : lv_has ls 3 [(0, .ref (a 1)), (1, .int k0), (2, .int (bI b0))] := hl
  refine lv_aload_n C0.1 C0.2.1 d_TH_add_0 rfl (lv_at hl 0 rfl) ?_
  refine gf_TH_28 C0 hP 1 rfl rfl d_TH_add_1 ?_
  refine lv_bipush (v := nI 48) C0.1 C0.2.1 d_TH_add_4 (by decide) ?_
  refine lv_icmp_lt (tgt := 12) C0.1 C0.2.1 d_TH_add_6 (by decide) (fun c_6 => ?_) (fun c_6 => ?_)
  · exact absurd ((nI_ltI (by omega) (by omega)).mp c_6) (by omega)
  · refine lv_bipush (v := -5) C0.1 C0.2.1 d_TH_add_9 (by decide) ?_
    exact eR_i C0 hr hlk (rfl) d_TH_add_11
set_option maxHeartbeats 4000000 in
set_option maxRecDepth 100000 in
theorem c_TH_add (k0 : Nat) (b0 : Bool) (hn : n < 48) : Mt l y_TH_add w_TH_add ({ frames := 0, cells := 0, slots := 0, locals := 0 }) g classes (tyL t) [.ref (a 1), .int (nI k0), .int (bI b0)] (wW a t n kd em br ii oo np ea eb li rn wa wn sT sP ak ap af tt ac ct rp rt rest L) (S := Unit) (fun v _ => v = some (.int (nI n))) (fun _ => (wW a t (n + 1) (va_up kd n k0) (va_up em n b0) br (va_up ii n (-1)) (va_up oo n (-1)) np ea eb li rn wa wn sT sP ak ap af tt ac ct rp rt rest L)) 0 0 := by
  refine Mt.of (cc := b_TH_add) (maxL := 3) (ret := (some .int)) (own := R_TH) (by decide) rfl rfl (Nat.le_of_ble_eq_true rfl) ?_
  intro p e s m args below meth c C0 hr hlk hin A hA hB ls hl
  have hl : lv_has ls 3 [(0, .ref (a 1)), (1, .int (nI k0)), (2, .int (bI b0))] := hl
  refine lv_aload_n C0.1 C0.2.1 d_TH_add_0 rfl (lv_at hl 0 rfl) ?_
  refine gf_TH_28 C0 hB.1 1 rfl rfl d_TH_add_1 ?_
  refine lv_bipush (v := nI 48) C0.1 C0.2.1 d_TH_add_4 (by decide) ?_
  refine lv_icmp_lt (tgt := 12) C0.1 C0.2.1 d_TH_add_6 (by decide) (fun c_6 => ?_) (fun c_6 => ?_)
  · refine lv_aload_n C0.1 C0.2.1 d_TH_add_12 rfl (lv_at hl 0 rfl) ?_
    refine gf_TH_9 C0 hB.1 1 rfl rfl d_TH_add_13 ?_
    refine lv_aload_n C0.1 C0.2.1 d_TH_add_16 rfl (lv_at hl 0 rfl) ?_
    refine gf_TH_28 C0 hB.1 1 rfl rfl d_TH_add_17 ?_
    refine lv_iload_n C0.1 C0.2.1 d_TH_add_20 rfl (lv_at hl 1 rfl) ?_
    refine ast_i (w' := (wW a t n (va_up kd n k0) em br ii oo np ea eb li rn wa wn sT sP ak ap af tt ac ct rp rt rest L)) C0 hB 5 0 rfl rfl (by omega) (by decide) up_nI rfl d_TH_add_21 (fun H locs hB => ?_)
    refine lv_aload_n C0.1 C0.2.1 d_TH_add_22 rfl (lv_at hl 0 rfl) ?_
    refine gf_TH_15 C0 hB.1 1 rfl rfl d_TH_add_23 ?_
    refine lv_aload_n C0.1 C0.2.1 d_TH_add_26 rfl (lv_at hl 0 rfl) ?_
    refine gf_TH_28 C0 hB.1 1 rfl rfl d_TH_add_27 ?_
    refine lv_iload_n C0.1 C0.2.1 d_TH_add_30 rfl (lv_at hl 2 rfl) ?_
    refine ast_z (w' := (wW a t n (va_up kd n k0) (va_up em n b0) br ii oo np ea eb li rn wa wn sT sP ak ap af tt ac ct rp rt rest L)) C0 hB 6 1 rfl rfl (by omega) (by decide) up_bI rfl d_TH_add_31 (fun H locs hB => ?_)
    refine lv_aload_n C0.1 C0.2.1 d_TH_add_32 rfl (lv_at hl 0 rfl) ?_
    refine gf_TH_22 C0 hB.1 1 rfl rfl d_TH_add_33 ?_
    refine lv_aload_n C0.1 C0.2.1 d_TH_add_36 rfl (lv_at hl 0 rfl) ?_
    refine gf_TH_28 C0 hB.1 1 rfl rfl d_TH_add_37 ?_
    refine lv_iconst (v := -1) C0.1 C0.2.1 d_TH_add_40 (by decide) ?_
    refine ast_i (w' := (wW a t n (va_up kd n k0) (va_up em n b0) br (va_up ii n (-1)) oo np ea eb li rn wa wn sT sP ak ap af tt ac ct rp rt rest L)) C0 hB 8 0 rfl rfl (by omega) (by decide) up_32 rfl d_TH_add_41 (fun H locs hB => ?_)
    refine lv_aload_n C0.1 C0.2.1 d_TH_add_42 rfl (lv_at hl 0 rfl) ?_
    refine gf_TH_25 C0 hB.1 1 rfl rfl d_TH_add_43 ?_
    refine lv_aload_n C0.1 C0.2.1 d_TH_add_46 rfl (lv_at hl 0 rfl) ?_
    refine gf_TH_28 C0 hB.1 1 rfl rfl d_TH_add_47 ?_
    refine lv_iconst (v := -1) C0.1 C0.2.1 d_TH_add_50 (by decide) ?_
    refine ast_i (w' := (wW a t n (va_up kd n k0) (va_up em n b0) br (va_up ii n (-1)) (va_up oo n (-1)) np ea eb li rn wa wn sT sP ak ap af tt ac ct rp rt rest L)) C0 hB 9 0 rfl rfl (by omega) (by decide) up_32 rfl d_TH_add_51 (fun H locs hB => ?_)
    refine lv_aload_n C0.1 C0.2.1 d_TH_add_52 rfl (lv_at hl 0 rfl) ?_
    refine lv_dup C0.1 C0.2.1 d_TH_add_53 rfl ?_
    refine gf_TH_28 C0 hB.1 1 rfl rfl d_TH_add_54 ?_
    refine lv_iconst (v := nI 1) C0.1 C0.2.1 d_TH_add_57 (by decide) ?_
    refine lv_iadd C0.1 C0.2.1 d_TH_add_58 ?_
    refine ti (show (nI n) + (nI 1) = nI (n + 1) from nI_add _ _) ?_
    refine pf_TH_28 (w' := (wW a t (n + 1) (va_up kd n k0) (va_up em n b0) br (va_up ii n (-1)) (va_up oo n (-1)) np ea eb li rn wa wn sT sP ak ap af tt ac ct rp rt rest L)) C0 hB 1 rfl (Nat.le_of_ble_eq_true rfl) rfl rfl rfl d_TH_add_59 (fun H locs hB => ?_)
    refine lv_aload_n C0.1 C0.2.1 d_TH_add_62 rfl (lv_at hl 0 rfl) ?_
    refine gf_TH_28 C0 hB.1 1 rfl rfl d_TH_add_63 ?_
    refine lv_iconst (v := nI 1) C0.1 C0.2.1 d_TH_add_66 (by decide) ?_
    refine lv_isub C0.1 C0.2.1 d_TH_add_67 ?_
    refine ti (show (nI (n + 1)) - (nI 1) = nI n from (pk_sub (by omega) : nI (n + 1) - nI 1 = nI (n + 1 - 1))) ?_
    exact eM_i C0 hr hlk () hB (rfl) (Nat.le_refl _) (Nat.le_refl _) d_TH_add_68
  · exact absurd ((nI_ltI (by omega) (by omega)).mpr hn) c_6
set_option maxHeartbeats 4000000 in
set_option maxRecDepth 100000 in
theorem c_PI_add_full (x y : Int32) (z : Int64) (hn : np = 96) : Rd l y_PI_add w_PI_add ({ frames := 0, cells := 0, slots := 0, locals := 0 }) g classes (tyL t) [.ref (a 2), .int x, .int y, .long z] (wW a t n kd em br ii oo np ea eb li rn wa wn sT sP ak ap af tt ac ct rp rt rest L) (some (.int (-5))) := by
  refine Rd.of (cc := b_PI_add) (maxL := 5) (ret := (some .int)) (own := R_PI) (by decide) rfl rfl (Nat.le_of_ble_eq_true rfl) ?_
  intro p e s m args below meth c C0 hr hlk hP ls hl
  have hl : lv_has ls 5 [(0, .ref (a 2)), (1, .int x), (2, .int y), (3, .long z)] := hl
  refine lv_aload_n C0.1 C0.2.1 d_PI_add_0 rfl (lv_at hl 0 rfl) ?_
  refine gf_PI_26 C0 hP 2 rfl rfl d_PI_add_1 ?_
  refine lv_bipush (v := nI 96) C0.1 C0.2.1 d_PI_add_4 (by decide) ?_
  refine lv_icmp_lt (tgt := 12) C0.1 C0.2.1 d_PI_add_6 (by decide) (fun c_6 => ?_) (fun c_6 => ?_)
  · exact absurd ((nI_ltI (by omega) (by omega)).mp c_6) (by omega)
  · refine lv_bipush (v := -5) C0.1 C0.2.1 d_PI_add_9 (by decide) ?_
    exact eR_i C0 hr hlk (rfl) d_PI_add_11
set_option maxHeartbeats 4000000 in
set_option maxRecDepth 100000 in
theorem c_PI_add (x y z : Nat) (hn : np < 96) : Mt l y_PI_add w_PI_add ({ frames := 0, cells := 0, slots := 0, locals := 0 }) g classes (tyL t) [.ref (a 2), .int (nI x), .int (nI y), .long (lN z)] (wW a t n kd em br ii oo np ea eb li rn wa wn sT sP ak ap af tt ac ct rp rt rest L) (S := Unit) (fun v _ => v = some (.int (nI np))) (fun _ => (wW a t n kd em br ii oo (np + 1) (va_up ea np x) (va_up eb np y) (va_up li np z) rn wa wn sT sP ak ap af tt ac ct rp rt rest L)) 0 0 := by
  refine Mt.of (cc := b_PI_add) (maxL := 5) (ret := (some .int)) (own := R_PI) (by decide) rfl rfl (Nat.le_of_ble_eq_true rfl) ?_
  intro p e s m args below meth c C0 hr hlk hin A hA hB ls hl
  have hl : lv_has ls 5 [(0, .ref (a 2)), (1, .int (nI x)), (2, .int (nI y)), (3, .long (lN z))] := hl
  refine lv_aload_n C0.1 C0.2.1 d_PI_add_0 rfl (lv_at hl 0 rfl) ?_
  refine gf_PI_26 C0 hB.1 2 rfl rfl d_PI_add_1 ?_
  refine lv_bipush (v := nI 96) C0.1 C0.2.1 d_PI_add_4 (by decide) ?_
  refine lv_icmp_lt (tgt := 12) C0.1 C0.2.1 d_PI_add_6 (by decide) (fun c_6 => ?_) (fun c_6 => ?_)
  · refine lv_aload_n C0.1 C0.2.1 d_PI_add_12 rfl (lv_at hl 0 rfl) ?_
    refine gf_PI_9 C0 hB.1 2 rfl rfl d_PI_add_13 ?_
    refine lv_aload_n C0.1 C0.2.1 d_PI_add_16 rfl (lv_at hl 0 rfl) ?_
    refine gf_PI_26 C0 hB.1 2 rfl rfl d_PI_add_17 ?_
    refine lv_iload_n C0.1 C0.2.1 d_PI_add_20 rfl (lv_at hl 1 rfl) ?_
    refine ast_i (w' := (wW a t n kd em br ii oo np (va_up ea np x) eb li rn wa wn sT sP ak ap af tt ac ct rp rt rest L)) C0 hB 10 0 rfl rfl (by omega) (by decide) up_nI rfl d_PI_add_21 (fun H locs hB => ?_)
    refine lv_aload_n C0.1 C0.2.1 d_PI_add_22 rfl (lv_at hl 0 rfl) ?_
    refine gf_PI_15 C0 hB.1 2 rfl rfl d_PI_add_23 ?_
    refine lv_aload_n C0.1 C0.2.1 d_PI_add_26 rfl (lv_at hl 0 rfl) ?_
    refine gf_PI_26 C0 hB.1 2 rfl rfl d_PI_add_27 ?_
    refine lv_iload_n C0.1 C0.2.1 d_PI_add_30 rfl (lv_at hl 2 rfl) ?_
    refine ast_i (w' := (wW a t n kd em br ii oo np (va_up ea np x) (va_up eb np y) li rn wa wn sT sP ak ap af tt ac ct rp rt rest L)) C0 hB 11 0 rfl rfl (by omega) (by decide) up_nI rfl d_PI_add_31 (fun H locs hB => ?_)
    refine lv_aload_n C0.1 C0.2.1 d_PI_add_32 rfl (lv_at hl 0 rfl) ?_
    refine gf_PI_18 C0 hB.1 2 rfl rfl d_PI_add_33 ?_
    refine lv_aload_n C0.1 C0.2.1 d_PI_add_36 rfl (lv_at hl 0 rfl) ?_
    refine gf_PI_26 C0 hB.1 2 rfl rfl d_PI_add_37 ?_
    refine lv_lload_n C0.1 C0.2.1 d_PI_add_40 rfl (lv_at hl 3 rfl) ?_
    refine ast_l (w' := (wW a t n kd em br ii oo np (va_up ea np x) (va_up eb np y) (va_up li np z) rn wa wn sT sP ak ap af tt ac ct rp rt rest L)) C0 hB 12 2 rfl rfl (by omega) (by decide) up_lN rfl d_PI_add_41 (fun H locs hB => ?_)
    refine lv_aload_n C0.1 C0.2.1 d_PI_add_42 rfl (lv_at hl 0 rfl) ?_
    refine lv_dup C0.1 C0.2.1 d_PI_add_43 rfl ?_
    refine gf_PI_26 C0 hB.1 2 rfl rfl d_PI_add_44 ?_
    refine lv_iconst (v := nI 1) C0.1 C0.2.1 d_PI_add_47 (by decide) ?_
    refine lv_iadd C0.1 C0.2.1 d_PI_add_48 ?_
    refine ti (show (nI np) + (nI 1) = nI (np + 1) from nI_add _ _) ?_
    refine pf_PI_26 (w' := (wW a t n kd em br ii oo (np + 1) (va_up ea np x) (va_up eb np y) (va_up li np z) rn wa wn sT sP ak ap af tt ac ct rp rt rest L)) C0 hB 2 rfl (Nat.le_of_ble_eq_true rfl) rfl rfl rfl d_PI_add_49 (fun H locs hB => ?_)
    refine lv_aload_n C0.1 C0.2.1 d_PI_add_52 rfl (lv_at hl 0 rfl) ?_
    refine gf_PI_26 C0 hB.1 2 rfl rfl d_PI_add_53 ?_
    refine lv_iconst (v := nI 1) C0.1 C0.2.1 d_PI_add_56 (by decide) ?_
    refine lv_isub C0.1 C0.2.1 d_PI_add_57 ?_
    refine ti (show (nI (np + 1)) - (nI 1) = nI np from (pk_sub (by omega) : nI (np + 1) - nI 1 = nI (np + 1 - 1))) ?_
    exact eM_i C0 hr hlk () hB (rfl) (Nat.le_refl _) (Nat.le_refl _) d_PI_add_58
  · exact absurd ((nI_ltI (by omega) (by omega)).mpr hn) c_6
set_option maxHeartbeats 4000000 in
set_option maxRecDepth 100000 in
theorem c_PI_anyEndsAt (v : Nat) (hv : v < 48) (hn : np ≤ 96) (hea : ∀ j, j < np → ea j < 48) (heb : ∀ j, j < np → eb j < 48) : Rd l y_PI_anyEndsAt w_PI_anyEndsAt ({ frames := 0, cells := 0, slots := 0, locals := 0 }) g classes (tyL t) [.ref (a 2), .int (nI v)] (wW a t n kd em br ii oo np ea eb li rn wa wn sT sP ak ap af tt ac ct rp rt rest L) (some (.int (bI (anyN (endB ea eb v) np)))) := by
  refine Rd.of (cc := b_PI_anyEndsAt) (maxL := 3) (ret := (some .boolean)) (own := R_PI) (by decide) rfl rfl (Nat.le_of_ble_eq_true rfl) ?_
  intro p e s m args below meth c C0 hr hlk hP ls hl
  have hl : lv_has ls 3 [(0, .ref (a 2)), (1, .int (nI v))] := hl
  refine lv_iconst (v := nI 0) C0.1 C0.2.1 d_PI_anyEndsAt_0 (by decide) ?_
  refine lv_istore_n (lv' := [(2, .int (nI 0)), (0, .ref (a 2)), (1, .int (nI v))]) C0.1 C0.2.1 d_PI_anyEndsAt_1 rfl hl (by decide) rfl (fun ls hl => ?_)
  refine wlR (σ := Nat) (head := 2) (fun z_ => np - z_) (fun z_ => z_ ≤ np ∧ ∀ i, i < z_ → endB ea eb v i = false) (fun z_ => [(0, .ref (a 2)), (1, .int (nI v)), (2, .int (nI z_))]) ?_ 0 (show 0 ≤ np ∧ ∀ i, i < 0 → endB ea eb v i = false from ⟨Nat.zero_le _, fun i h => absurd h (Nat.not_lt_zero _)⟩) (lv_sub hl [1, 2, 0] rfl)
  rintro j hi ih_2 ls hl
  have hi : j ≤ np ∧ ∀ i, i < j → endB ea eb v i = false := hi
  obtain ⟨hi1, hi2⟩ := hi
  have hl : lv_has ls 3 [(0, .ref (a 2)), (1, .int (nI v)), (2, .int (nI j))] := hl
  refine lv_iload_n C0.1 C0.2.1 d_PI_anyEndsAt_2 rfl (lv_at hl 2 rfl) ?_
  refine lv_aload_n C0.1 C0.2.1 d_PI_anyEndsAt_3 rfl (lv_at hl 0 rfl) ?_
  refine gf_PI_26 C0 hP 2 rfl rfl d_PI_anyEndsAt_4 ?_
  refine lv_icmp_ge (tgt := 38) C0.1 C0.2.1 d_PI_anyEndsAt_7 (by decide) (fun c_7 => ?_) (fun c_7 => ?_)
  · have hj : j = np := by have := (nI_leI (by omega) (by omega)).mp c_7; omega
    subst hj
    refine lv_iconst (v := nI 0) C0.1 C0.2.1 d_PI_anyEndsAt_38 (by decide) ?_
    exact eR_z C0 hr hlk (b := anyN (endB ea eb v) j) (by rw [anyN_f.mpr hi2]; rfl) rfl d_PI_anyEndsAt_39
  · have hj : j < np := (nI_nle' (by omega) (by omega)).mp c_7
    have hx1 := hea j hj
    have hx2 := heb j hj
    refine lv_aload_n C0.1 C0.2.1 d_PI_anyEndsAt_10 rfl (lv_at hl 0 rfl) ?_
    refine gf_PI_9 C0 hP 2 rfl rfl d_PI_anyEndsAt_11 ?_
    refine lv_iload_n C0.1 C0.2.1 d_PI_anyEndsAt_14 rfl (lv_at hl 2 rfl) ?_
    refine ald_i C0 hP 10 0 rfl rfl (by omega) (by decide) d_PI_anyEndsAt_15 ?_
    refine lv_iload_n C0.1 C0.2.1 d_PI_anyEndsAt_16 rfl (lv_at hl 1 rfl) ?_
    refine lv_icmp_eq (tgt := 30) C0.1 C0.2.1 d_PI_anyEndsAt_17 (by decide) (fun c_17 => ?_) (fun c_17 => ?_)
    · refine lv_iconst (v := nI 1) C0.1 C0.2.1 d_PI_anyEndsAt_30 (by decide) ?_
      exact eR_z C0 hr hlk (b := anyN (endB ea eb v) np) (by rw [anyN_t.mpr ⟨j, hj, endB_1 ((nI_eq (by omega) (by omega)).mp c_17)⟩]; rfl) rfl d_PI_anyEndsAt_31
    · refine lv_aload_n C0.1 C0.2.1 d_PI_anyEndsAt_20 rfl (lv_at hl 0 rfl) ?_
      refine gf_PI_15 C0 hP 2 rfl rfl d_PI_anyEndsAt_21 ?_
      refine lv_iload_n C0.1 C0.2.1 d_PI_anyEndsAt_24 rfl (lv_at hl 2 rfl) ?_
      refine ald_i C0 hP 11 0 rfl rfl (by omega) (by decide) d_PI_anyEndsAt_25 ?_
      refine lv_iload_n C0.1 C0.2.1 d_PI_anyEndsAt_26 rfl (lv_at hl 1 rfl) ?_
      refine lv_icmp_ne (tgt := 32) C0.1 C0.2.1 d_PI_anyEndsAt_27 (by decide) (fun c_27 => ?_) (fun c_27 => ?_)
      · refine lv_iinc (v := nI (j + 1)) (lv' := [(2, .int (nI (j + 1))), (0, .ref (a 2)), (1, .int (nI v))]) C0.1 C0.2.1 d_PI_anyEndsAt_32 hl (k := 2) rfl (inc1 _) (by decide) rfl (fun ls hl => ?_)
        refine lv_goto (tgt := 2) C0.1 C0.2.1 d_PI_anyEndsAt_35 (by decide) ?_
        exact ih_2 (j + 1) (show (j + 1) ≤ np ∧ ∀ i, i < (j + 1) → endB ea eb v i = false from ⟨by omega, lt_s hi2 (endB_f (fun q => c_17 (by rw [q])) (fun q => c_27 (by rw [q])))⟩) (show np - (j + 1) < np - j from by omega) ls (lv_sub hl [1, 2, 0] rfl)
      · refine lv_iconst (v := nI 1) C0.1 C0.2.1 d_PI_anyEndsAt_30 (by decide) ?_
        exact eR_z C0 hr hlk (b := anyN (endB ea eb v) np) (by rw [anyN_t.mpr ⟨j, hj, endB_2 ((nI_eq (by omega) (by omega)).mp c_27)⟩]; rfl) rfl d_PI_anyEndsAt_31
set_option maxHeartbeats 4000000 in
set_option maxRecDepth 100000 in
theorem c_PI_anyJoins (x y : Int32) (hn : np ≤ 96) : Rd l y_PI_anyJoins w_PI_anyJoins ({ frames := 0, cells := 0, slots := 0, locals := 0 }) g classes (tyL t) [.ref (a 2), .int x, .int y] (wW a t n kd em br ii oo np ea eb li rn wa wn sT sP ak ap af tt ac ct rp rt rest L) (some (.int (bI (anyN (joinB ea eb x y) np)))) := by
  refine Rd.of (cc := b_PI_anyJoins) (maxL := 6) (ret := (some .boolean)) (own := R_PI) (by decide) rfl rfl (Nat.le_of_ble_eq_true rfl) ?_
  intro p e s m args below meth c C0 hr hlk hP ls hl
  have hl : lv_has ls 6 [(0, .ref (a 2)), (1, .int x), (2, .int y)] := hl
  refine lv_iconst (v := nI 0) C0.1 C0.2.1 d_PI_anyJoins_0 (by decide) ?_
  refine lv_istore_n (lv' := [(3, .int (nI 0)), (0, .ref (a 2)), (1, .int x), (2, .int y)]) C0.1 C0.2.1 d_PI_anyJoins_1 rfl hl (by decide) rfl (fun ls hl => ?_)
  refine wlR (σ := Nat) (head := 2) (fun z_ => np - z_) (fun z_ => z_ ≤ np ∧ ∀ i, i < z_ → joinB ea eb x y i = false) (fun z_ => [(0, .ref (a 2)), (1, .int x), (2, .int y), (3, .int (nI z_))]) ?_ 0 (show 0 ≤ np ∧ ∀ i, i < 0 → joinB ea eb x y i = false from ⟨Nat.zero_le _, fun i h => absurd h (Nat.not_lt_zero _)⟩) (lv_sub hl [1, 2, 3, 0] rfl)
  rintro j hi ih_2 ls hl
  have hi : j ≤ np ∧ ∀ i, i < j → joinB ea eb x y i = false := hi
  obtain ⟨hi1, hi2⟩ := hi
  have hl : lv_has ls 6 [(0, .ref (a 2)), (1, .int x), (2, .int y), (3, .int (nI j))] := hl
  refine lv_iload_n C0.1 C0.2.1 d_PI_anyJoins_2 rfl (lv_at hl 3 rfl) ?_
  refine lv_aload_n C0.1 C0.2.1 d_PI_anyJoins_3 rfl (lv_at hl 0 rfl) ?_
  refine gf_PI_26 C0 hP 2 rfl rfl d_PI_anyJoins_4 ?_
  refine lv_icmp_ge (tgt := 82) C0.1 C0.2.1 d_PI_anyJoins_7 (by decide) (fun c_7 => ?_) (fun c_7 => ?_)
  · have hj : j = np := by have := (nI_leI (by omega) (by omega)).mp c_7; omega
    subst hj
    refine lv_iconst (v := nI 0) C0.1 C0.2.1 d_PI_anyJoins_82 (by decide) ?_
    exact eR_z C0 hr hlk (b := anyN (joinB ea eb x y) j) (by rw [anyN_f.mpr hi2]; rfl) rfl d_PI_anyJoins_83
  · have hj : j < np := (nI_nle' (by omega) (by omega)).mp c_7
    refine wcut (g2 := F0 m 35 ls [.int (bI (decide (nI (ea j) = x) && decide (nI (eb j) = y)))]) ?_ (fun T35 => ?_)
    · refine lv_istore (lv' := [(4, .int (bI (decide (nI (ea j) = x) && decide (nI (eb j) = y)))), (0, .ref (a 2)), (1, .int x), (2, .int y), (3, .int (nI j))]) C0.1 C0.2.1 d_PI_anyJoins_35 hl (by decide) rfl (fun ls hl => ?_)
      refine wcut (g2 := F0 m 62 ls [.int (bI (decide (nI (ea j) = y) && decide (nI (eb j) = x)))]) ?_ (fun T62 => ?_)
      · refine lv_istore (lv' := [(5, .int (bI (decide (nI (ea j) = y) && decide (nI (eb j) = x)))), (4, .int (bI (decide (nI (ea j) = x) && decide (nI (eb j) = y)))), (0, .ref (a 2)), (1, .int x), (2, .int y), (3, .int (nI j))]) C0.1 C0.2.1 d_PI_anyJoins_62 hl (by decide) rfl (fun ls hl => ?_)
        refine lv_iload C0.1 C0.2.1 d_PI_anyJoins_64 (lv_at hl 1 rfl) ?_
        refine lv_if_ne (tgt := 74) C0.1 C0.2.1 d_PI_anyJoins_66 (by decide) (fun c_66 => ?_) (fun c_66 => ?_)
        · refine lv_iconst (v := nI 1) C0.1 C0.2.1 d_PI_anyJoins_74 (by decide) ?_
          exact eR_z C0 hr hlk (b := anyN (joinB ea eb x y) np) (by rw [anyN_t.mpr ⟨j, hj, by unfold joinB; rw [bI_n0.mp c_66]; rfl⟩]; rfl) rfl d_PI_anyJoins_75
        · refine lv_iload C0.1 C0.2.1 d_PI_anyJoins_69 (lv_at hl 0 rfl) ?_
          refine lv_if_eq (tgt := 76) C0.1 C0.2.1 d_PI_anyJoins_71 (by decide) (fun c_71 => ?_) (fun c_71 => ?_)
          · refine lv_iinc (v := nI (j + 1)) (lv' := [(3, .int (nI (j + 1))), (5, .int (bI (decide (nI (ea j) = y) && decide (nI (eb j) = x)))), (4, .int (bI (decide (nI (ea j) = x) && decide (nI (eb j) = y)))), (0, .ref (a 2)), (1, .int x), (2, .int y)]) C0.1 C0.2.1 d_PI_anyJoins_76 hl (k := 5) rfl (inc1 _) (by decide) rfl (fun ls hl => ?_)
            refine lv_goto (tgt := 2) C0.1 C0.2.1 d_PI_anyJoins_79 (by decide) ?_
            exact ih_2 (j + 1) (show (j + 1) ≤ np ∧ ∀ i, i < (j + 1) → joinB ea eb x y i = false from ⟨by omega, lt_s hi2 (by unfold joinB; rw [bI_0.mp c_66, bI_0.mp c_71]; rfl)⟩) (show np - (j + 1) < np - j from by omega) ls (lv_sub hl [3, 4, 5, 0] rfl)
          · refine lv_iconst (v := nI 1) C0.1 C0.2.1 d_PI_anyJoins_74 (by decide) ?_
            exact eR_z C0 hr hlk (b := anyN (joinB ea eb x y) np) (by rw [anyN_t.mpr ⟨j, hj, by unfold joinB; rw [bI_n0.mp c_71, Bool.or_true]⟩]; rfl) rfl d_PI_anyJoins_75
      · refine lv_aload_n C0.1 C0.2.1 d_PI_anyJoins_37 rfl (lv_at hl 1 rfl) ?_
        refine gf_PI_9 C0 hP 2 rfl rfl d_PI_anyJoins_38 ?_
        refine lv_iload_n C0.1 C0.2.1 d_PI_anyJoins_41 rfl (lv_at hl 4 rfl) ?_
        refine ald_i C0 hP 10 0 rfl rfl (by omega) (by decide) d_PI_anyJoins_42 ?_
        refine lv_iload_n C0.1 C0.2.1 d_PI_anyJoins_43 rfl (lv_at hl 3 rfl) ?_
        refine lv_icmp_ne (tgt := 61) C0.1 C0.2.1 d_PI_anyJoins_44 (by decide) (fun c_44 => ?_) (fun c_44 => ?_)
        · refine lv_iconst (v := nI 0) C0.1 C0.2.1 d_PI_anyJoins_61 (by decide) ?_
          exact ti (show nI 0 = bI (decide (nI (ea j) = y) && decide (nI (eb j) = x)) from by rw [decide_eq_false c_44]; rfl) T62
        · refine lv_aload_n C0.1 C0.2.1 d_PI_anyJoins_47 rfl (lv_at hl 1 rfl) ?_
          refine gf_PI_15 C0 hP 2 rfl rfl d_PI_anyJoins_48 ?_
          refine lv_iload_n C0.1 C0.2.1 d_PI_anyJoins_51 rfl (lv_at hl 4 rfl) ?_
          refine ald_i C0 hP 11 0 rfl rfl (by omega) (by decide) d_PI_anyJoins_52 ?_
          refine lv_iload_n C0.1 C0.2.1 d_PI_anyJoins_53 rfl (lv_at hl 2 rfl) ?_
          refine lv_icmp_ne (tgt := 61) C0.1 C0.2.1 d_PI_anyJoins_54 (by decide) (fun c_54 => ?_) (fun c_54 => ?_)
          · refine lv_iconst (v := nI 0) C0.1 C0.2.1 d_PI_anyJoins_61 (by decide) ?_
            exact ti (show nI 0 = bI (decide (nI (ea j) = y) && decide (nI (eb j) = x)) from by rw [decide_eq_false c_54, Bool.and_false]; rfl) T62
          · refine lv_iconst (v := nI 1) C0.1 C0.2.1 d_PI_anyJoins_57 (by decide) ?_
            refine lv_goto (tgt := 62) C0.1 C0.2.1 d_PI_anyJoins_58 (by decide) ?_
            exact ti (show nI 1 = bI (decide (nI (ea j) = y) && decide (nI (eb j) = x)) from by rw [decide_eq_true c_44, decide_eq_true c_54]; rfl) T62
    · refine lv_aload_n C0.1 C0.2.1 d_PI_anyJoins_10 rfl (lv_at hl 0 rfl) ?_
      refine gf_PI_9 C0 hP 2 rfl rfl d_PI_anyJoins_11 ?_
      refine lv_iload_n C0.1 C0.2.1 d_PI_anyJoins_14 rfl (lv_at hl 3 rfl) ?_
      refine ald_i C0 hP 10 0 rfl rfl (by omega) (by decide) d_PI_anyJoins_15 ?_
      refine lv_iload_n C0.1 C0.2.1 d_PI_anyJoins_16 rfl (lv_at hl 1 rfl) ?_
      refine lv_icmp_ne (tgt := 34) C0.1 C0.2.1 d_PI_anyJoins_17 (by decide) (fun c_17 => ?_) (fun c_17 => ?_)
      · refine lv_iconst (v := nI 0) C0.1 C0.2.1 d_PI_anyJoins_34 (by decide) ?_
        exact ti (show nI 0 = bI (decide (nI (ea j) = x) && decide (nI (eb j) = y)) from by rw [decide_eq_false c_17]; rfl) T35
      · refine lv_aload_n C0.1 C0.2.1 d_PI_anyJoins_20 rfl (lv_at hl 0 rfl) ?_
        refine gf_PI_15 C0 hP 2 rfl rfl d_PI_anyJoins_21 ?_
        refine lv_iload_n C0.1 C0.2.1 d_PI_anyJoins_24 rfl (lv_at hl 3 rfl) ?_
        refine ald_i C0 hP 11 0 rfl rfl (by omega) (by decide) d_PI_anyJoins_25 ?_
        refine lv_iload_n C0.1 C0.2.1 d_PI_anyJoins_26 rfl (lv_at hl 2 rfl) ?_
        refine lv_icmp_ne (tgt := 34) C0.1 C0.2.1 d_PI_anyJoins_27 (by decide) (fun c_27 => ?_) (fun c_27 => ?_)
        · refine lv_iconst (v := nI 0) C0.1 C0.2.1 d_PI_anyJoins_34 (by decide) ?_
          exact ti (show nI 0 = bI (decide (nI (ea j) = x) && decide (nI (eb j) = y)) from by rw [decide_eq_false c_27, Bool.and_false]; rfl) T35
        · refine lv_iconst (v := nI 1) C0.1 C0.2.1 d_PI_anyJoins_30 (by decide) ?_
          refine lv_goto (tgt := 35) C0.1 C0.2.1 d_PI_anyJoins_31 (by decide) ?_
          exact ti (show nI 1 = bI (decide (nI (ea j) = x) && decide (nI (eb j) = y)) from by rw [decide_eq_true c_17, decide_eq_true c_27]; rfl) T35
end THINGS

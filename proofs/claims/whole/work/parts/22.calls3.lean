section CALLS3
variable {l : Launch} {g : va_G} {t : Nat → ClassId} {a : Nat → Nat} {n : Nat} {kd : Nat → Nat} {em : Nat → Bool} {br : Nat → Bool} {ii : Nat → Int32} {oo : Nat → Int32} {np : Nat} {ea : Nat → Nat} {eb : Nat → Nat} {li : Nat → Nat} {rn : Nat → Bool} {wa : Nat → Option Nat} {wn : Nat} {sT : Nat → Bool} {sP : Nat → Bool} {ak : Nat} {ap : Nat → Nat} {af : Nat → Nat} {tt : Nat → Nat} {ac : Nat → Nat} {ct : Nat → Nat} {rp : Nat → Nat} {rt : Nat → Nat} {rest : va_W} {L : List Wy}
set_option maxHeartbeats 4000000 in
set_option maxRecDepth 100000 in
theorem c_WS_pipeOf_no (x : Int32) (hwn : wn ≤ 64) (hno : hasB wn x = false) (k : Int32) : Rd l y_WS_pipeOf w_WS_pipeOf ({ frames := 1, cells := 0, slots := 0, locals := 21 }) g classes (tyL t) [.ref (a 0), .int x, .int k] (wW a t n kd em br ii oo np ea eb li rn wa wn sT sP ak ap af tt ac ct rp rt rest L) (some (.int (-2))) := by
  refine Rd.of (cc := b_WS_pipeOf) (maxL := 4) (ret := (some .int)) (own := R_WS) (by decide) rfl rfl (Nat.le_of_ble_eq_true rfl) ?_
  intro p e s m args below meth c C0 hr hlk hP ls hl
  have hl : lv_has ls 4 [(0, .ref (a 0)), (1, .int x), (2, .int k)] := hl
  refine lv_aload_n C0.1 C0.2.1 d_WS_pipeOf_0 rfl (lv_at hl 0 rfl) ?_
  refine lv_iload_n C0.1 C0.2.1 d_WS_pipeOf_1 rfl (lv_at hl 1 rfl) ?_
  refine cR (As := [.int x]) (rest := []) C0 (c_WS_wayNumbered_no x hwn hno) (q_WS_80 C0.2.2.2.2.1 rfl rfl ⟨Nat.le_of_ble_eq_true rfl, Nat.le_of_ble_eq_true rfl⟩) (ci := 0) (q0 := 0) rfl rfl rfl hP hl.1 rfl rfl (Nat.le_of_ble_eq_true rfl) d_WS_pipeOf_2 ⟨Nat.zero_le _, Nat.zero_le _⟩ ?_
  refine W.eq (g2 := F0 m 5 ls [.null]) rfl ?_
  refine lv_astore_nN (lv' := [(3, .null), (0, .ref (a 0)), (1, .int x), (2, .int k)]) C0.1 C0.2.1 d_WS_pipeOf_5 rfl hl (by decide) rfl (fun ls hl => ?_)
  refine lv_aload_nN C0.1 C0.2.1 d_WS_pipeOf_6 rfl (lv_at hl 0 rfl) ?_
  refine lv_ifnonnullN C0.1 C0.2.1 d_WS_pipeOf_7 ?_
  refine lv_bipush (v := -2) C0.1 C0.2.1 d_WS_pipeOf_10 (by decide) ?_
  refine lv_goto (tgt := 20) C0.1 C0.2.1 d_WS_pipeOf_12 (by decide) ?_
  exact eR_i C0 hr hlk (rfl) d_WS_pipeOf_20
set_option maxHeartbeats 4000000 in
set_option maxRecDepth 100000 in
theorem c_WS_pipeOf (i pa ta oa fr to0 lit : Nat) (pl tl : List Nat) (hwn : wn ≤ 64) (hi : i < wn) (hoa : wa i = some oa) (hx : L[i]? = some (pa, ta, oa, fr, to0, lit, pl, tl)) (hl1 : pl.length < 1000) (hl2 : tl.length < 1000) (k : Int32) : Rd l y_WS_pipeOf w_WS_pipeOf ({ frames := 1, cells := 0, slots := 0, locals := 21 }) g classes (tyL t) [.ref (a 0), .int (nI i), .int k] (wW a t n kd em br ii oo np ea eb li rn wa wn sT sP ak ap af tt ac ct rp rt rest L) (some (.int (pAt pl.length (fun j => nI (pl.getD j 0)) k))) := by
  refine Rd.of (cc := b_WS_pipeOf) (maxL := 4) (ret := (some .int)) (own := R_WS) (by decide) rfl rfl (Nat.le_of_ble_eq_true rfl) ?_
  intro p e s m args below meth c C0 hr hlk hP ls hl
  have hl : lv_has ls 4 [(0, .ref (a 0)), (1, .int (nI i)), (2, .int k)] := hl
  refine lv_aload_n C0.1 C0.2.1 d_WS_pipeOf_0 rfl (lv_at hl 0 rfl) ?_
  refine lv_iload_n C0.1 C0.2.1 d_WS_pipeOf_1 rfl (lv_at hl 1 rfl) ?_
  refine cR (As := [.int (nI i)]) (rest := []) C0 (c_WS_wayNumbered i oa hwn hi hoa) (q_WS_80 C0.2.2.2.2.1 rfl rfl ⟨Nat.le_of_ble_eq_true rfl, Nat.le_of_ble_eq_true rfl⟩) (ci := 0) (q0 := 0) rfl rfl rfl hP hl.1 rfl rfl (Nat.le_of_ble_eq_true rfl) d_WS_pipeOf_2 ⟨Nat.zero_le _, Nat.zero_le _⟩ ?_
  refine W.eq (g2 := F0 m 5 ls [.ref oa]) rfl ?_
  refine lv_astore_n (lv' := [(3, .ref oa), (0, .ref (a 0)), (1, .int (nI i)), (2, .int k)]) C0.1 C0.2.1 d_WS_pipeOf_5 rfl hl (by decide) rfl (fun ls hl => ?_)
  refine lv_aload_n C0.1 C0.2.1 d_WS_pipeOf_6 rfl (lv_at hl 0 rfl) ?_
  refine lv_ifnonnull (tgt := 15) C0.1 C0.2.1 d_WS_pipeOf_7 (by decide) ?_
  refine lv_aload_n C0.1 C0.2.1 d_WS_pipeOf_15 rfl (lv_at hl 0 rfl) ?_
  refine lv_iload_n C0.1 C0.2.1 d_WS_pipeOf_16 rfl (lv_at hl 3 rfl) ?_
  refine cR (As := [.int k]) (rest := []) C0 (c_FW_pipeAt (23 + (rest.length + (3 * i + 2))) (23 + (rest.length + (3 * i + 0))) oa pa ta pl.length (fun j => nI (pl.getD j 0)) (nI fr) (nI to0) (lN lit) k (wW_w2 hx) (wW_w0 hx) (by omega)) (q_WS_84 C0.2.2.2.2.1 rfl rfl ⟨Nat.le_of_ble_eq_true rfl, Nat.le_of_ble_eq_true rfl⟩) (ci := 4) (q0 := 23 + (rest.length + (3 * i + 2))) rfl rfl (wW_w2 hx) hP hl.1 rfl rfl (Nat.le_of_ble_eq_true rfl) d_WS_pipeOf_17 ⟨Nat.zero_le _, Nat.zero_le _⟩ ?_
  refine W.eq (g2 := F0 m 20 ls [.int (pAt pl.length (fun j => nI (pl.getD j 0)) k)]) rfl ?_
  exact eR_i C0 hr hlk (rfl) d_WS_pipeOf_20
set_option maxHeartbeats 4000000 in
set_option maxRecDepth 100000 in
theorem c_WS_rest_no (x : Int32) (hwn : wn ≤ 64) (hno : hasB wn x = false) : Rd l y_WS_rest w_WS_rest ({ frames := 1, cells := 0, slots := 0, locals := 21 }) g classes (tyL t) [.ref (a 0), .int x] (wW a t n kd em br ii oo np ea eb li rn wa wn sT sP ak ap af tt ac ct rp rt rest L) (some (.long (-2))) := by
  refine Rd.of (cc := b_WS_rest) (maxL := 3) (ret := (some .long)) (own := R_WS) (by decide) rfl rfl (Nat.le_of_ble_eq_true rfl) ?_
  intro p e s m args below meth c C0 hr hlk hP ls hl
  have hl : lv_has ls 3 [(0, .ref (a 0)), (1, .int x)] := hl
  refine lv_aload_n C0.1 C0.2.1 d_WS_rest_0 rfl (lv_at hl 0 rfl) ?_
  refine lv_iload_n C0.1 C0.2.1 d_WS_rest_1 rfl (lv_at hl 1 rfl) ?_
  refine cR (As := [.int x]) (rest := []) C0 (c_WS_wayNumbered_no x hwn hno) (q_WS_80 C0.2.2.2.2.1 rfl rfl ⟨Nat.le_of_ble_eq_true rfl, Nat.le_of_ble_eq_true rfl⟩) (ci := 0) (q0 := 0) rfl rfl rfl hP hl.1 rfl rfl (Nat.le_of_ble_eq_true rfl) d_WS_rest_2 ⟨Nat.zero_le _, Nat.zero_le _⟩ ?_
  refine W.eq (g2 := F0 m 5 ls [.null]) rfl ?_
  refine lv_astore_nN (lv' := [(2, .null), (0, .ref (a 0)), (1, .int x)]) C0.1 C0.2.1 d_WS_rest_5 rfl hl (by decide) rfl (fun ls hl => ?_)
  refine lv_aload_nN C0.1 C0.2.1 d_WS_rest_6 rfl (lv_at hl 0 rfl) ?_
  refine lv_ifnonnullN C0.1 C0.2.1 d_WS_rest_7 ?_
  refine lv_ldc2 C0.1 C0.2.1 C0.2.2.2.1 (C0.2.2.2.2.1 _ k_WS_95) d_WS_rest_10 ?_
  refine lv_goto (tgt := 20) C0.1 C0.2.1 d_WS_rest_13 (by decide) ?_
  exact eR_l C0 hr hlk rfl d_WS_rest_20
set_option maxHeartbeats 4000000 in
set_option maxRecDepth 100000 in
theorem c_WS_rest (i pa ta oa fr to0 lit : Nat) (pl tl : List Nat) (hwn : wn ≤ 64) (hi : i < wn) (hoa : wa i = some oa) (hx : L[i]? = some (pa, ta, oa, fr, to0, lit, pl, tl)) (hl1 : pl.length < 1000) (hl2 : tl.length < 1000) : Rd l y_WS_rest w_WS_rest ({ frames := 1, cells := 0, slots := 0, locals := 21 }) g classes (tyL t) [.ref (a 0), .int (nI i)] (wW a t n kd em br ii oo np ea eb li rn wa wn sT sP ak ap af tt ac ct rp rt rest L) (some (.long (lN lit))) := by
  refine Rd.of (cc := b_WS_rest) (maxL := 3) (ret := (some .long)) (own := R_WS) (by decide) rfl rfl (Nat.le_of_ble_eq_true rfl) ?_
  intro p e s m args below meth c C0 hr hlk hP ls hl
  have hl : lv_has ls 3 [(0, .ref (a 0)), (1, .int (nI i))] := hl
  refine lv_aload_n C0.1 C0.2.1 d_WS_rest_0 rfl (lv_at hl 0 rfl) ?_
  refine lv_iload_n C0.1 C0.2.1 d_WS_rest_1 rfl (lv_at hl 1 rfl) ?_
  refine cR (As := [.int (nI i)]) (rest := []) C0 (c_WS_wayNumbered i oa hwn hi hoa) (q_WS_80 C0.2.2.2.2.1 rfl rfl ⟨Nat.le_of_ble_eq_true rfl, Nat.le_of_ble_eq_true rfl⟩) (ci := 0) (q0 := 0) rfl rfl rfl hP hl.1 rfl rfl (Nat.le_of_ble_eq_true rfl) d_WS_rest_2 ⟨Nat.zero_le _, Nat.zero_le _⟩ ?_
  refine W.eq (g2 := F0 m 5 ls [.ref oa]) rfl ?_
  refine lv_astore_n (lv' := [(2, .ref oa), (0, .ref (a 0)), (1, .int (nI i))]) C0.1 C0.2.1 d_WS_rest_5 rfl hl (by decide) rfl (fun ls hl => ?_)
  refine lv_aload_n C0.1 C0.2.1 d_WS_rest_6 rfl (lv_at hl 0 rfl) ?_
  refine lv_ifnonnull (tgt := 16) C0.1 C0.2.1 d_WS_rest_7 (by decide) ?_
  refine lv_aload_n C0.1 C0.2.1 d_WS_rest_16 rfl (lv_at hl 0 rfl) ?_
  refine gf_WS_97 C0 hP (23 + (rest.length + (3 * i + 2))) (wW_w2 hx) rfl d_WS_rest_17 ?_
  exact eR_l C0 hr hlk rfl d_WS_rest_20
set_option maxHeartbeats 4000000 in
set_option maxRecDepth 100000 in
theorem c_WS_valveOf_no (x : Int32) (hwn : wn ≤ 64) (hno : hasB wn x = false) (k : Int32) : Rd l y_WS_valveOf w_WS_valveOf ({ frames := 2, cells := 0, slots := 0, locals := 43 }) g classes (tyL t) [.ref (a 0), .int x, .int k] (wW a t n kd em br ii oo np ea eb li rn wa wn sT sP ak ap af tt ac ct rp rt rest L) (some (.int (-2))) := by
  refine Rd.of (cc := b_WS_valveOf) (maxL := 9) (ret := (some .int)) (own := R_WS) (by decide) rfl rfl (Nat.le_of_ble_eq_true rfl) ?_
  intro p e s m args below meth c C0 hr hlk hP ls hl
  have hl : lv_has ls 9 [(0, .ref (a 0)), (1, .int x), (2, .int k)] := hl
  refine lv_aload_n C0.1 C0.2.1 d_WS_valveOf_0 rfl (lv_at hl 0 rfl) ?_
  refine lv_iload_n C0.1 C0.2.1 d_WS_valveOf_1 rfl (lv_at hl 1 rfl) ?_
  refine cR (As := [.int x]) (rest := []) C0 (c_WS_wayNumbered_no x hwn hno) (q_WS_80 C0.2.2.2.2.1 rfl rfl ⟨Nat.le_of_ble_eq_true rfl, Nat.le_of_ble_eq_true rfl⟩) (ci := 0) (q0 := 0) rfl rfl rfl hP hl.1 rfl rfl (Nat.le_of_ble_eq_true rfl) d_WS_valveOf_2 ⟨Nat.zero_le _, Nat.zero_le _⟩ ?_
  refine W.eq (g2 := F0 m 5 ls [.null]) rfl ?_
  refine lv_astore_nN (lv' := [(3, .null), (0, .ref (a 0)), (1, .int x), (2, .int k)]) C0.1 C0.2.1 d_WS_valveOf_5 rfl hl (by decide) rfl (fun ls hl => ?_)
  refine lv_aload_nN C0.1 C0.2.1 d_WS_valveOf_6 rfl (lv_at hl 0 rfl) ?_
  refine lv_ifnonnullN C0.1 C0.2.1 d_WS_valveOf_7 ?_
  refine lv_bipush (v := -2) C0.1 C0.2.1 d_WS_valveOf_10 (by decide) ?_
  exact eR_i C0 hr hlk (rfl) d_WS_valveOf_12
set_option maxHeartbeats 4000000 in
set_option maxRecDepth 100000 in
theorem c_WS_valveOf (i pa ta oa fr to0 lit : Nat) (pl tl : List Nat) (hwn : wn ≤ 64) (hi : i < wn) (hoa : wa i = some oa) (hx : L[i]? = some (pa, ta, oa, fr, to0, lit, pl, tl)) (hl1 : pl.length < 1000) (hl2 : tl.length < 1000) (k : Int32) (htl : ∀ v ∈ tl, v < n) (hn : n ≤ 48) (hk : ∀ j, kd j < 3) : Rd l y_WS_valveOf w_WS_valveOf ({ frames := 2, cells := 0, slots := 0, locals := 43 }) g classes (tyL t) [.ref (a 0), .int (nI i), .int k] (wW a t n kd em br ii oo np ea eb li rn wa wn sT sP ak ap af tt ac ct rp rt rest L) (some (.int (vOf kd tl k))) := by
  refine Rd.of (cc := b_WS_valveOf) (maxL := 9) (ret := (some .int)) (own := R_WS) (by decide) rfl rfl (Nat.le_of_ble_eq_true rfl) ?_
  intro p e s m args below meth c C0 hr hlk hP ls hl
  have hl : lv_has ls 9 [(0, .ref (a 0)), (1, .int (nI i)), (2, .int k)] := hl
  refine lv_aload_n C0.1 C0.2.1 d_WS_valveOf_0 rfl (lv_at hl 0 rfl) ?_
  refine lv_iload_n C0.1 C0.2.1 d_WS_valveOf_1 rfl (lv_at hl 1 rfl) ?_
  refine cR (As := [.int (nI i)]) (rest := []) C0 (c_WS_wayNumbered i oa hwn hi hoa) (q_WS_80 C0.2.2.2.2.1 rfl rfl ⟨Nat.le_of_ble_eq_true rfl, Nat.le_of_ble_eq_true rfl⟩) (ci := 0) (q0 := 0) rfl rfl rfl hP hl.1 rfl rfl (Nat.le_of_ble_eq_true rfl) d_WS_valveOf_2 ⟨Nat.zero_le _, Nat.zero_le _⟩ ?_
  refine W.eq (g2 := F0 m 5 ls [.ref oa]) rfl ?_
  refine lv_astore_n (lv' := [(3, .ref oa), (0, .ref (a 0)), (1, .int (nI i)), (2, .int k)]) C0.1 C0.2.1 d_WS_valveOf_5 rfl hl (by decide) rfl (fun ls hl => ?_)
  refine lv_aload_n C0.1 C0.2.1 d_WS_valveOf_6 rfl (lv_at hl 0 rfl) ?_
  refine lv_ifnonnull (tgt := 13) C0.1 C0.2.1 d_WS_valveOf_7 (by decide) ?_
  refine lv_iconst (v := nI 0) C0.1 C0.2.1 d_WS_valveOf_13 (by decide) ?_
  refine lv_istore (lv' := [(4, .int (nI 0)), (3, .ref oa), (0, .ref (a 0)), (1, .int (nI i)), (2, .int k)]) C0.1 C0.2.1 d_WS_valveOf_14 hl (by decide) rfl (fun ls hl => ?_)
  refine lv_aload_n C0.1 C0.2.1 d_WS_valveOf_16 rfl (lv_at hl 1 rfl) ?_
  refine gf_WS_88 C0 hP (23 + (rest.length + (3 * i + 2))) (wW_w2 hx) rfl d_WS_valveOf_17 ?_
  refine lv_astore (lv' := [(5, .ref ta), (4, .int (nI 0)), (3, .ref oa), (0, .ref (a 0)), (1, .int (nI i)), (2, .int k)]) C0.1 C0.2.1 d_WS_valveOf_20 hl (by decide) rfl (fun ls hl => ?_)
  refine lv_aload C0.1 C0.2.1 d_WS_valveOf_22 (lv_at hl 0 rfl) ?_
  refine alen (n := tl.length) C0 hP (23 + (rest.length + (3 * i + 1))) 0 (wW_w1 hx) rfl rfl d_WS_valveOf_24 ?_
  refine lv_istore (lv' := [(6, .int (nI tl.length)), (5, .ref ta), (4, .int (nI 0)), (3, .ref oa), (0, .ref (a 0)), (1, .int (nI i)), (2, .int k)]) C0.1 C0.2.1 d_WS_valveOf_25 hl (by decide) rfl (fun ls hl => ?_)
  refine lv_iconst (v := nI 0) C0.1 C0.2.1 d_WS_valveOf_27 (by decide) ?_
  refine lv_istore (lv' := [(7, .int (nI 0)), (6, .int (nI tl.length)), (5, .ref ta), (4, .int (nI 0)), (3, .ref oa), (0, .ref (a 0)), (1, .int (nI i)), (2, .int k)]) C0.1 C0.2.1 d_WS_valveOf_28 hl (by decide) rfl (fun ls hl => ?_)
  refine wlR (σ := Nat) (head := 30) (fun z_ => tl.length - z_) (fun z_ => z_ ≤ tl.length ∧ ∀ z, z < ((tl.take z_).filter (fun v => decide (kd v = 2))).length → ¬ nI z = k) (fun z_ => [(0, .ref (a 0)), (2, .int k), (4, .int (nI ((tl.take z_).filter (fun v => decide (kd v = 2))).length)), (5, .ref ta), (6, .int (nI tl.length)), (7, .int (nI z_))]) ?_ 0 (show 0 ≤ tl.length ∧ ∀ z, z < ((tl.take 0).filter (fun v => decide (kd v = 2))).length → ¬ nI z = k from ⟨Nat.zero_le _, fun z h => absurd h (Nat.not_lt_zero _)⟩) (lv_sub hl [5, 7, 3, 2, 1, 0] rfl)
  rintro j hi ih_30 ls hl
  have hi : j ≤ tl.length ∧ ∀ z, z < ((tl.take j).filter (fun v => decide (kd v = 2))).length → ¬ nI z = k := hi
  obtain ⟨hi1, hi2⟩ := hi
  have hl : lv_has ls 9 [(0, .ref (a 0)), (2, .int k), (4, .int (nI ((tl.take j).filter (fun v => decide (kd v = 2))).length)), (5, .ref ta), (6, .int (nI tl.length)), (7, .int (nI j))] := hl
  refine lv_iload C0.1 C0.2.1 d_WS_valveOf_30 (lv_at hl 5 rfl) ?_
  refine lv_iload C0.1 C0.2.1 d_WS_valveOf_32 (lv_at hl 4 rfl) ?_
  refine lv_icmp_ge (tgt := 75) C0.1 C0.2.1 d_WS_valveOf_34 (by decide) (fun c_34 => ?_) (fun c_34 => ?_)
  · have hj : j = tl.length := by have := (nI_leI (by omega) (by omega)).mp c_34; omega
    refine lv_iconst (v := -1) C0.1 C0.2.1 d_WS_valveOf_75 (by decide) ?_
    exact eR_i C0 hr hlk (by rw [vOf_no hl2 (by rw [hj, List.take_length] at hi2; exact hi2)]) d_WS_valveOf_76
  · have hj : j < tl.length := (nI_nle' (by omega) (by omega)).mp c_34
    have hv : tl.getD j 0 < n := htl _ (gD_mem hj)
    refine lv_aload C0.1 C0.2.1 d_WS_valveOf_37 (lv_at hl 3 rfl) ?_
    refine lv_iload C0.1 C0.2.1 d_WS_valveOf_39 (lv_at hl 5 rfl) ?_
    refine ald_i (N := tl.length) C0 hP (23 + (rest.length + (3 * i + 1))) 0 (wW_w1 hx) rfl (by omega) (by omega) d_WS_valveOf_41 ?_
    refine lv_istore (lv' := [(8, .int (nI (tl.getD j 0))), (0, .ref (a 0)), (2, .int k), (4, .int (nI ((tl.take j).filter (fun v => decide (kd v = 2))).length)), (5, .ref ta), (6, .int (nI tl.length)), (7, .int (nI j))]) C0.1 C0.2.1 d_WS_valveOf_42 hl (by decide) rfl (fun ls hl => ?_)
    refine lv_aload_n C0.1 C0.2.1 d_WS_valveOf_44 rfl (lv_at hl 1 rfl) ?_
    refine gf_WS_20 C0 hP 0 rfl rfl d_WS_valveOf_45 ?_
    refine lv_iload C0.1 C0.2.1 d_WS_valveOf_48 (lv_at hl 0 rfl) ?_
    refine lv_iconst (v := nI 2) C0.1 C0.2.1 d_WS_valveOf_50 (by decide) ?_
    refine cR (As := [.int (nI (tl.getD j 0)), .int (nI 2)]) (rest := []) C0 (c_TH_isKind (nI (tl.getD j 0)) 2 (by decide) hn hk) (q_WS_91 C0.2.2.2.2.1 rfl rfl ⟨Nat.le_of_ble_eq_true rfl, Nat.le_of_ble_eq_true rfl⟩) (ci := 1) (q0 := 1) rfl rfl rfl hP hl.1 rfl rfl (Nat.le_of_ble_eq_true rfl) d_WS_valveOf_51 ⟨Nat.zero_le _, Nat.zero_le _⟩ ?_
    refine W.eq (g2 := F0 m 54 ls [.int (bI (isK n kd (nI (tl.getD j 0)) 2))]) rfl ?_
    refine lv_if_eq (tgt := 69) C0.1 C0.2.1 d_WS_valveOf_54 (by decide) (fun c_54 => ?_) (fun c_54 => ?_)
    · have hkv : ¬ kd (tl.getD j 0) = 2 := of_decide_eq_false (by rw [← isK_j hv (by have := hk (tl.getD j 0); omega) (by omega)]; exact bI_0.mp c_54)
      have ec : ((tl.take (j + 1)).filter (fun v => decide (kd v = 2))).length = ((tl.take j).filter (fun v => decide (kd v = 2))).length := by rw [flt_cnt hj, if_neg hkv]; rfl
      rw [← ec] at hl
      refine lv_iinc (v := nI (j + 1)) (lv' := [(7, .int (nI (j + 1))), (8, .int (nI (tl.getD j 0))), (0, .ref (a 0)), (2, .int k), (4, .int (nI ((tl.take (j + 1)).filter (fun v => decide (kd v = 2))).length)), (5, .ref ta), (6, .int (nI tl.length))]) C0.1 C0.2.1 d_WS_valveOf_69 hl (k := 6) rfl (inc1 _) (by decide) rfl (fun ls hl => ?_)
      refine lv_goto (tgt := 30) C0.1 C0.2.1 d_WS_valveOf_72 (by decide) ?_
      exact ih_30 (j + 1) (show (j + 1) ≤ tl.length ∧ ∀ z, z < ((tl.take (j + 1)).filter (fun v => decide (kd v = 2))).length → ¬ nI z = k from ⟨by omega, fun z hz => hi2 z (by omega)⟩) (show tl.length - (j + 1) < tl.length - j from by omega) ls (lv_sub hl [2, 3, 4, 5, 6, 0] rfl)
    · have hkv : kd (tl.getD j 0) = 2 := of_decide_eq_true (by rw [← isK_j hv (by have := hk (tl.getD j 0); omega) (by omega)]; exact bI_n0.mp c_54)
      have ec : ((tl.take (j + 1)).filter (fun v => decide (kd v = 2))).length = ((tl.take j).filter (fun v => decide (kd v = 2))).length + 1 := by rw [flt_cnt hj, if_pos hkv]
      refine lv_iload C0.1 C0.2.1 d_WS_valveOf_57 (lv_at hl 3 rfl) ?_
      refine lv_iload_n C0.1 C0.2.1 d_WS_valveOf_59 rfl (lv_at hl 2 rfl) ?_
      refine lv_icmp_ne (tgt := 66) C0.1 C0.2.1 d_WS_valveOf_60 (by decide) (fun c_60 => ?_) (fun c_60 => ?_)
      · refine lv_iinc (v := nI ((tl.take (j + 1)).filter (fun v => decide (kd v = 2))).length) (lv' := [(4, .int (nI ((tl.take (j + 1)).filter (fun v => decide (kd v = 2))).length)), (8, .int (nI (tl.getD j 0))), (0, .ref (a 0)), (2, .int k), (5, .ref ta), (6, .int (nI tl.length)), (7, .int (nI j))]) C0.1 C0.2.1 d_WS_valveOf_66 hl (k := 3) rfl (by rw [ec]; exact inc1 _) (by decide) rfl (fun ls hl => ?_)
        refine lv_iinc (v := nI (j + 1)) (lv' := [(7, .int (nI (j + 1))), (4, .int (nI ((tl.take (j + 1)).filter (fun v => decide (kd v = 2))).length)), (8, .int (nI (tl.getD j 0))), (0, .ref (a 0)), (2, .int k), (5, .ref ta), (6, .int (nI tl.length))]) C0.1 C0.2.1 d_WS_valveOf_69 hl (k := 6) rfl (inc1 _) (by decide) rfl (fun ls hl => ?_)
        refine lv_goto (tgt := 30) C0.1 C0.2.1 d_WS_valveOf_72 (by decide) ?_
        exact ih_30 (j + 1) (show (j + 1) ≤ tl.length ∧ ∀ z, z < ((tl.take (j + 1)).filter (fun v => decide (kd v = 2))).length → ¬ nI z = k from ⟨by omega, fun z hz => by rcases Nat.lt_or_ge z (((tl.take j).filter (fun v => decide (kd v = 2))).length) with q | q; exact hi2 z q; rw [show z = ((tl.take j).filter (fun v => decide (kd v = 2))).length by omega]; exact c_60⟩) (show tl.length - (j + 1) < tl.length - j from by omega) ls (lv_sub hl [3, 4, 1, 5, 6, 0] rfl)
      · refine lv_iload C0.1 C0.2.1 d_WS_valveOf_63 (lv_at hl 0 rfl) ?_
        exact eR_i C0 hr hlk (by rw [vOf_at hl2 hj hkv c_60]) d_WS_valveOf_65
set_option maxHeartbeats 4000000 in
set_option maxRecDepth 100000 in
theorem c_WS_blow_no (x : Int32) (hwn : wn ≤ 64) (hno : hasB wn x = false) (k : Int32) : Rd l y_WS_blow w_WS_blow ({ frames := 2, cells := 0, slots := 0, locals := 43 }) g classes (tyL t) [.ref (a 0), .int x, .int k] (wW a t n kd em br ii oo np ea eb li rn wa wn sT sP ak ap af tt ac ct rp rt rest L) (some (.int (-2))) := by
  refine Rd.of (cc := b_WS_blow) (maxL := 6) (ret := (some .int)) (own := R_WS) (by decide) rfl rfl (Nat.le_of_ble_eq_true rfl) ?_
  intro p e s m args below meth c C0 hr hlk hP ls hl
  have hl : lv_has ls 6 [(0, .ref (a 0)), (1, .int x), (2, .int k)] := hl
  refine lv_aload_n C0.1 C0.2.1 d_WS_blow_0 rfl (lv_at hl 0 rfl) ?_
  refine lv_iload_n C0.1 C0.2.1 d_WS_blow_1 rfl (lv_at hl 1 rfl) ?_
  refine cR (As := [.int x]) (rest := []) C0 (c_WS_wayNumbered_no x hwn hno) (q_WS_80 C0.2.2.2.2.1 rfl rfl ⟨Nat.le_of_ble_eq_true rfl, Nat.le_of_ble_eq_true rfl⟩) (ci := 0) (q0 := 0) rfl rfl rfl hP hl.1 rfl rfl (Nat.le_of_ble_eq_true rfl) d_WS_blow_2 ⟨Nat.zero_le _, Nat.zero_le _⟩ ?_
  refine W.eq (g2 := F0 m 5 ls [.null]) rfl ?_
  refine lv_astore_nN (lv' := [(3, .null), (0, .ref (a 0)), (1, .int x), (2, .int k)]) C0.1 C0.2.1 d_WS_blow_5 rfl hl (by decide) rfl (fun ls hl => ?_)
  refine lv_aload_nN C0.1 C0.2.1 d_WS_blow_6 rfl (lv_at hl 0 rfl) ?_
  refine lv_ifnonnullN C0.1 C0.2.1 d_WS_blow_7 ?_
  refine lv_bipush (v := -2) C0.1 C0.2.1 d_WS_blow_10 (by decide) ?_
  exact eR_i C0 hr hlk (rfl) d_WS_blow_12
set_option maxHeartbeats 4000000 in
set_option maxRecDepth 100000 in
theorem c_WS_blow_out (i pa ta oa fr to0 lit : Nat) (pl tl : List Nat) (hwn : wn ≤ 64) (hi : i < wn) (hoa : wa i = some oa) (hx : L[i]? = some (pa, ta, oa, fr, to0, lit, pl, tl)) (hl1 : pl.length < 1000) (hl2 : tl.length < 1000) (k : Int32) (hp1 : 1 ≤ pl.length) (hk0 : hasB pl.length k = false) : Rd l y_WS_blow w_WS_blow ({ frames := 2, cells := 0, slots := 0, locals := 43 }) g classes (tyL t) [.ref (a 0), .int (nI i), .int k] (wW a t n kd em br ii oo np ea eb li rn wa wn sT sP ak ap af tt ac ct rp rt rest L) (some (.int (-1))) := by
  refine Rd.of (cc := b_WS_blow) (maxL := 6) (ret := (some .int)) (own := R_WS) (by decide) rfl rfl (Nat.le_of_ble_eq_true rfl) ?_
  intro p e s m args below meth c C0 hr hlk hP ls hl
  have hl : lv_has ls 6 [(0, .ref (a 0)), (1, .int (nI i)), (2, .int k)] := hl
  refine lv_aload_n C0.1 C0.2.1 d_WS_blow_0 rfl (lv_at hl 0 rfl) ?_
  refine lv_iload_n C0.1 C0.2.1 d_WS_blow_1 rfl (lv_at hl 1 rfl) ?_
  refine cR (As := [.int (nI i)]) (rest := []) C0 (c_WS_wayNumbered i oa hwn hi hoa) (q_WS_80 C0.2.2.2.2.1 rfl rfl ⟨Nat.le_of_ble_eq_true rfl, Nat.le_of_ble_eq_true rfl⟩) (ci := 0) (q0 := 0) rfl rfl rfl hP hl.1 rfl rfl (Nat.le_of_ble_eq_true rfl) d_WS_blow_2 ⟨Nat.zero_le _, Nat.zero_le _⟩ ?_
  refine W.eq (g2 := F0 m 5 ls [.ref oa]) rfl ?_
  refine lv_astore_n (lv' := [(3, .ref oa), (0, .ref (a 0)), (1, .int (nI i)), (2, .int k)]) C0.1 C0.2.1 d_WS_blow_5 rfl hl (by decide) rfl (fun ls hl => ?_)
  refine lv_aload_n C0.1 C0.2.1 d_WS_blow_6 rfl (lv_at hl 0 rfl) ?_
  refine lv_ifnonnull (tgt := 13) C0.1 C0.2.1 d_WS_blow_7 (by decide) ?_
  refine lv_aload_n C0.1 C0.2.1 d_WS_blow_13 rfl (lv_at hl 0 rfl) ?_
  refine gf_WS_139 C0 hP (23 + (rest.length + (3 * i + 2))) (wW_w2 hx) rfl d_WS_blow_14 ?_
  refine alen (n := pl.length) C0 hP (23 + (rest.length + (3 * i + 0))) 0 (wW_w0 hx) rfl rfl d_WS_blow_17 ?_
  refine lv_iconst (v := nI 1) C0.1 C0.2.1 d_WS_blow_18 (by decide) ?_
  refine lv_isub C0.1 C0.2.1 d_WS_blow_19 ?_
  refine ti (show (nI pl.length) - (nI 1) = nI (pl.length - 1) from pk_sub (by omega)) ?_
  refine lv_istore (lv' := [(4, .int (nI (pl.length - 1))), (3, .ref oa), (0, .ref (a 0)), (1, .int (nI i)), (2, .int k)]) C0.1 C0.2.1 d_WS_blow_20 hl (by decide) rfl (fun ls hl => ?_)
  refine lv_iload_n C0.1 C0.2.1 d_WS_blow_22 rfl (lv_at hl 4 rfl) ?_
  refine lv_if_lt (tgt := 32) C0.1 C0.2.1 d_WS_blow_23 (by decide) (fun c_23 => ?_) (fun c_23 => ?_)
  · refine lv_iconst (v := -1) C0.1 C0.2.1 d_WS_blow_32 (by decide) ?_
    exact eR_i C0 hr hlk (rfl) d_WS_blow_33
  · refine lv_iload_n C0.1 C0.2.1 d_WS_blow_26 rfl (lv_at hl 4 rfl) ?_
    refine lv_iload C0.1 C0.2.1 d_WS_blow_27 (lv_at hl 0 rfl) ?_
    refine lv_icmp_le (tgt := 34) C0.1 C0.2.1 d_WS_blow_29 (by decide) (fun c_29 => ?_) (fun c_29 => ?_)
    · exact absurd (hasB_t (n := pl.length) (by omega) c_23 (fun q => by have h1 := Int32.le_iff_toInt_le.mp c_29; have h2 := Int32.le_iff_toInt_le.mp q; rw [nI_toInt (by omega)] at h1; rw [nI_toInt (by omega)] at h2; omega)) (by rw [hk0]; decide)
    · refine lv_iconst (v := -1) C0.1 C0.2.1 d_WS_blow_32 (by decide) ?_
      exact eR_i C0 hr hlk (rfl) d_WS_blow_33
set_option maxHeartbeats 4000000 in
set_option maxRecDepth 100000 in
theorem c_WS_blow (i pa ta oa fr to0 lit : Nat) (pl tl : List Nat) (hwn : wn ≤ 64) (hi : i < wn) (hoa : wa i = some oa) (hx : L[i]? = some (pa, ta, oa, fr, to0, lit, pl, tl)) (htl : ∀ v ∈ tl, v < n) (hll : tl.length = pl.length + 1) (hl1 : pl.length < 1000) (hl2 : tl.length < 1000) (k : Nat) (hk1 : k < pl.length) (hn : n ≤ 48) (hk : ∀ j, kd j < 3) : Rd l y_WS_blow w_WS_blow ({ frames := 2, cells := 0, slots := 0, locals := 43 }) g classes (tyL t) [.ref (a 0), .int (nI i), .int (nI k)] (wW a t n kd em br ii oo np ea eb li rn wa wn sT sP ak ap af tt ac ct rp rt rest L) (some (.int (blw kd pl tl k))) := by
  refine Rd.of (cc := b_WS_blow) (maxL := 6) (ret := (some .int)) (own := R_WS) (by decide) rfl rfl (Nat.le_of_ble_eq_true rfl) ?_
  intro p e s m args below meth c C0 hr hlk hP ls hl
  have hl : lv_has ls 6 [(0, .ref (a 0)), (1, .int (nI i)), (2, .int (nI k))] := hl
  refine lv_aload_n C0.1 C0.2.1 d_WS_blow_0 rfl (lv_at hl 0 rfl) ?_
  refine lv_iload_n C0.1 C0.2.1 d_WS_blow_1 rfl (lv_at hl 1 rfl) ?_
  refine cR (As := [.int (nI i)]) (rest := []) C0 (c_WS_wayNumbered i oa hwn hi hoa) (q_WS_80 C0.2.2.2.2.1 rfl rfl ⟨Nat.le_of_ble_eq_true rfl, Nat.le_of_ble_eq_true rfl⟩) (ci := 0) (q0 := 0) rfl rfl rfl hP hl.1 rfl rfl (Nat.le_of_ble_eq_true rfl) d_WS_blow_2 ⟨Nat.zero_le _, Nat.zero_le _⟩ ?_
  refine W.eq (g2 := F0 m 5 ls [.ref oa]) rfl ?_
  refine lv_astore_n (lv' := [(3, .ref oa), (0, .ref (a 0)), (1, .int (nI i)), (2, .int (nI k))]) C0.1 C0.2.1 d_WS_blow_5 rfl hl (by decide) rfl (fun ls hl => ?_)
  refine lv_aload_n C0.1 C0.2.1 d_WS_blow_6 rfl (lv_at hl 0 rfl) ?_
  refine lv_ifnonnull (tgt := 13) C0.1 C0.2.1 d_WS_blow_7 (by decide) ?_
  refine lv_aload_n C0.1 C0.2.1 d_WS_blow_13 rfl (lv_at hl 0 rfl) ?_
  refine gf_WS_139 C0 hP (23 + (rest.length + (3 * i + 2))) (wW_w2 hx) rfl d_WS_blow_14 ?_
  refine alen (n := pl.length) C0 hP (23 + (rest.length + (3 * i + 0))) 0 (wW_w0 hx) rfl rfl d_WS_blow_17 ?_
  refine lv_iconst (v := nI 1) C0.1 C0.2.1 d_WS_blow_18 (by decide) ?_
  refine lv_isub C0.1 C0.2.1 d_WS_blow_19 ?_
  refine ti (show (nI pl.length) - (nI 1) = nI (pl.length - 1) from pk_sub (by omega)) ?_
  refine lv_istore (lv' := [(4, .int (nI (pl.length - 1))), (3, .ref oa), (0, .ref (a 0)), (1, .int (nI i)), (2, .int (nI k))]) C0.1 C0.2.1 d_WS_blow_20 hl (by decide) rfl (fun ls hl => ?_)
  refine lv_iload_n C0.1 C0.2.1 d_WS_blow_22 rfl (lv_at hl 4 rfl) ?_
  refine lv_if_lt (tgt := 32) C0.1 C0.2.1 d_WS_blow_23 (by decide) (fun c_23 => ?_) (fun c_23 => ?_)
  · exact absurd c_23 (nI_pos (by omega))
  · refine lv_iload_n C0.1 C0.2.1 d_WS_blow_26 rfl (lv_at hl 4 rfl) ?_
    refine lv_iload C0.1 C0.2.1 d_WS_blow_27 (lv_at hl 0 rfl) ?_
    refine lv_icmp_le (tgt := 34) C0.1 C0.2.1 d_WS_blow_29 (by decide) (fun c_29 => ?_) (fun c_29 => ?_)
    · refine lv_iload C0.1 C0.2.1 d_WS_blow_34 (lv_at hl 0 rfl) ?_
      refine lv_istore (lv' := [(5, .int (nI (pl.length - 1))), (4, .int (nI (pl.length - 1))), (3, .ref oa), (0, .ref (a 0)), (1, .int (nI i)), (2, .int (nI k))]) C0.1 C0.2.1 d_WS_blow_36 hl (by decide) rfl (fun ls hl => ?_)
      refine wlR (σ := Nat) (head := 38) (fun z_ => k - z_) (fun z_ => z_ ≤ k ∧ ∀ y, y < z_ → kd (tl.getD (pl.length - 1 - y) 0) ≠ 1) (fun z_ => [(0, .ref (a 0)), (2, .int (nI k)), (3, .ref oa), (4, .int (nI (pl.length - 1))), (5, .int (nI (pl.length - 1 - z_)))]) ?_ 0 (show 0 ≤ k ∧ ∀ y, y < 0 → kd (tl.getD (pl.length - 1 - y) 0) ≠ 1 from ⟨Nat.zero_le _, fun y h => absurd h (Nat.not_lt_zero _)⟩) (lv_sub hl [3, 5, 2, 1, 0] rfl)
      rintro z hi ih_38 ls hl
      have hi : z ≤ k ∧ ∀ y, y < z → kd (tl.getD (pl.length - 1 - y) 0) ≠ 1 := hi
      obtain ⟨hi1, hi2⟩ := hi
      have hl : lv_has ls 6 [(0, .ref (a 0)), (2, .int (nI k)), (3, .ref oa), (4, .int (nI (pl.length - 1))), (5, .int (nI (pl.length - 1 - z)))] := hl
      refine lv_iload C0.1 C0.2.1 d_WS_blow_38 (lv_at hl 4 rfl) ?_
      refine lv_iload C0.1 C0.2.1 d_WS_blow_40 (lv_at hl 3 rfl) ?_
      refine lv_iload_n C0.1 C0.2.1 d_WS_blow_42 rfl (lv_at hl 1 rfl) ?_
      refine lv_isub C0.1 C0.2.1 d_WS_blow_43 ?_
      refine ti (show (nI (pl.length - 1)) - (nI k) = nI (pl.length - 1 - k) from pk_sub (by omega)) ?_
      refine lv_icmp_le (tgt := 72) C0.1 C0.2.1 d_WS_blow_44 (by decide) (fun c_44 => ?_) (fun c_44 => ?_)
      · have hz : z = k := by have := (nI_leI (by omega) (by omega)).mp c_44; omega
        refine lv_aload_n C0.1 C0.2.1 d_WS_blow_72 rfl (lv_at hl 2 rfl) ?_
        refine lv_iload C0.1 C0.2.1 d_WS_blow_73 (lv_at hl 3 rfl) ?_
        refine lv_iload_n C0.1 C0.2.1 d_WS_blow_75 rfl (lv_at hl 1 rfl) ?_
        refine lv_isub C0.1 C0.2.1 d_WS_blow_76 ?_
        refine ti (show (nI (pl.length - 1)) - (nI k) = nI (pl.length - 1 - k) from pk_sub (by omega)) ?_
        refine cR (As := [.int (nI (pl.length - 1 - k))]) (rest := []) C0 (c_FW_pipeAt (23 + (rest.length + (3 * i + 2))) (23 + (rest.length + (3 * i + 0))) oa pa ta pl.length (fun j => nI (pl.getD j 0)) (nI fr) (nI to0) (lN lit) (nI (pl.length - 1 - k)) (wW_w2 hx) (wW_w0 hx) (by omega)) (q_WS_84 C0.2.2.2.2.1 rfl rfl ⟨Nat.le_of_ble_eq_true rfl, Nat.le_of_ble_eq_true rfl⟩) (ci := 4) (q0 := 23 + (rest.length + (3 * i + 2))) rfl rfl (wW_w2 hx) hP hl.1 rfl rfl (Nat.le_of_ble_eq_true rfl) d_WS_blow_77 ⟨Nat.zero_le _, Nat.zero_le _⟩ ?_
        refine W.eq (g2 := F0 m 80 ls [.int (pAt pl.length (fun j => nI (pl.getD j 0)) (nI (pl.length - 1 - k)))]) rfl ?_
        exact eR_i C0 hr hlk (by rw [pAt_j (by omega) (by omega), show blw kd pl tl k = nI (pl.getD (pl.length - 1 - k) 0) from if_pos ⟨fun y hy => hi2 y (by omega), hk1⟩]) d_WS_blow_80
      · have hz : z < k := by have := (nI_nle' (by omega) (by omega)).mp c_44; omega
        have hv : tl.getD (pl.length - 1 - z) 0 < n := htl _ (gD_mem (by omega))
        refine lv_aload_n C0.1 C0.2.1 d_WS_blow_47 rfl (lv_at hl 0 rfl) ?_
        refine gf_WS_20 C0 hP 0 rfl rfl d_WS_blow_48 ?_
        refine lv_aload_n C0.1 C0.2.1 d_WS_blow_51 rfl (lv_at hl 2 rfl) ?_
        refine lv_iload C0.1 C0.2.1 d_WS_blow_52 (lv_at hl 4 rfl) ?_
        refine cR (As := [.int (nI (pl.length - 1 - z))]) (rest := [.ref (a 1)]) C0 (c_FW_thingAt (23 + (rest.length + (3 * i + 2))) (23 + (rest.length + (3 * i + 1))) oa pa ta tl.length (fun j => nI (tl.getD j 0)) (nI fr) (nI to0) (lN lit) (nI (pl.length - 1 - z)) (wW_w2 hx) (wW_w1 hx) (by omega)) (q_WS_141 C0.2.2.2.2.1 rfl rfl ⟨Nat.le_of_ble_eq_true rfl, Nat.le_of_ble_eq_true rfl⟩) (ci := 4) (q0 := 23 + (rest.length + (3 * i + 2))) rfl rfl (wW_w2 hx) hP hl.1 rfl rfl (Nat.le_of_ble_eq_true rfl) d_WS_blow_54 ⟨Nat.zero_le _, Nat.zero_le _⟩ ?_
        refine W.eq (g2 := F0 m 57 ls [.int (pAt tl.length (fun j => nI (tl.getD j 0)) (nI (pl.length - 1 - z))), .ref (a 1)]) rfl ?_
        refine lv_iconst (v := nI 1) C0.1 C0.2.1 d_WS_blow_57 (by decide) ?_
        rw [pAt_j (show pl.length - 1 - z < tl.length by omega) (by omega)]
        refine cR (As := [.int (nI (tl.getD (pl.length - 1 - z) 0)), .int (nI 1)]) (rest := []) C0 (c_TH_isKind (nI (tl.getD (pl.length - 1 - z) 0)) 1 (by decide) hn hk) (q_WS_91 C0.2.2.2.2.1 rfl rfl ⟨Nat.le_of_ble_eq_true rfl, Nat.le_of_ble_eq_true rfl⟩) (ci := 1) (q0 := 1) rfl rfl rfl hP hl.1 rfl rfl (Nat.le_of_ble_eq_true rfl) d_WS_blow_58 ⟨Nat.zero_le _, Nat.zero_le _⟩ ?_
        refine W.eq (g2 := F0 m 61 ls [.int (bI (isK n kd (nI (tl.getD (pl.length - 1 - z) 0)) 1))]) rfl ?_
        refine lv_if_eq (tgt := 66) C0.1 C0.2.1 d_WS_blow_61 (by decide) (fun c_61 => ?_) (fun c_61 => ?_)
        · have hkv : kd (tl.getD (pl.length - 1 - z) 0) ≠ 1 := of_decide_eq_false (by rw [← isK_j hv (by have := hk (tl.getD (pl.length - 1 - z) 0); omega) (by omega)]; exact bI_0.mp c_61)
          refine lv_iinc (v := nI (pl.length - 1 - (z + 1))) (lv' := [(5, .int (nI (pl.length - 1 - (z + 1)))), (0, .ref (a 0)), (2, .int (nI k)), (3, .ref oa), (4, .int (nI (pl.length - 1)))]) C0.1 C0.2.1 d_WS_blow_66 hl (k := 4) rfl (dec1 (by omega)) (by decide) rfl (fun ls hl => ?_)
          refine lv_goto (tgt := 38) C0.1 C0.2.1 d_WS_blow_69 (by decide) ?_
          exact ih_38 (z + 1) (show (z + 1) ≤ k ∧ ∀ y, y < (z + 1) → kd (tl.getD (pl.length - 1 - y) 0) ≠ 1 from ⟨by omega, lt_s hi2 hkv⟩) (show k - (z + 1) < k - z from by omega) ls (lv_sub hl [1, 2, 3, 4, 0] rfl)
        · have hkv : kd (tl.getD (pl.length - 1 - z) 0) = 1 := of_decide_eq_true (by rw [← isK_j hv (by have := hk (tl.getD (pl.length - 1 - z) 0); omega) (by omega)]; exact bI_n0.mp c_61)
          refine lv_iconst (v := -1) C0.1 C0.2.1 d_WS_blow_64 (by decide) ?_
          exact eR_i C0 hr hlk (by rw [show blw kd pl tl k = -1 from if_neg (fun q => q.1 z hz hkv)]) d_WS_blow_65
    · exact absurd (nI_le (by omega) (by omega)) c_29
set_option maxHeartbeats 4000000 in
set_option maxRecDepth 100000 in
theorem c_WS_keep_null  : Rd l y_WS_keep w_WS_keep ({ frames := 0, cells := 0, slots := 0, locals := 0 }) g classes (tyL t) [.ref (a 0), .null] (wW a t n kd em br ii oo np ea eb li rn wa wn sT sP ak ap af tt ac ct rp rt rest L) (some (.int (-1))) := by
  refine Rd.of (cc := b_WS_keep) (maxL := 2) (ret := (some .int)) (own := R_WS) (by decide) rfl rfl (Nat.le_of_ble_eq_true rfl) ?_
  intro p e s m args below meth c C0 hr hlk hP ls hl
  have hl : lv_has ls 2 [(0, .ref (a 0)), (1, .null)] := hl
  refine lv_aload_nN C0.1 C0.2.1 d_WS_keep_0 rfl (lv_at hl 1 rfl) ?_
  refine lv_ifnonnullN C0.1 C0.2.1 d_WS_keep_1 ?_
  refine lv_iconst (v := -1) C0.1 C0.2.1 d_WS_keep_4 (by decide) ?_
  exact eR_i C0 hr hlk (rfl) d_WS_keep_5
set_option maxHeartbeats 4000000 in
set_option maxRecDepth 100000 in
theorem c_WS_keep_full (oa : Nat) (hwn : wn = 64) : Rd l y_WS_keep w_WS_keep ({ frames := 0, cells := 0, slots := 0, locals := 0 }) g classes (tyL t) [.ref (a 0), .ref oa] (wW a t n kd em br ii oo np ea eb li rn wa wn sT sP ak ap af tt ac ct rp rt rest L) (some (.int (-5))) := by
  refine Rd.of (cc := b_WS_keep) (maxL := 2) (ret := (some .int)) (own := R_WS) (by decide) rfl rfl (Nat.le_of_ble_eq_true rfl) ?_
  intro p e s m args below meth c C0 hr hlk hP ls hl
  have hl : lv_has ls 2 [(0, .ref (a 0)), (1, .ref oa)] := hl
  refine lv_aload_n C0.1 C0.2.1 d_WS_keep_0 rfl (lv_at hl 1 rfl) ?_
  refine lv_ifnonnull (tgt := 6) C0.1 C0.2.1 d_WS_keep_1 (by decide) ?_
  refine lv_aload_n C0.1 C0.2.1 d_WS_keep_6 rfl (lv_at hl 0 rfl) ?_
  refine gf_WS_32 C0 hP 0 rfl rfl d_WS_keep_7 ?_
  refine lv_bipush (v := nI 64) C0.1 C0.2.1 d_WS_keep_10 (by decide) ?_
  refine lv_icmp_lt (tgt := 18) C0.1 C0.2.1 d_WS_keep_12 (by decide) (fun c_12 => ?_) (fun c_12 => ?_)
  · exact absurd ((nI_ltI (by omega) (by omega)).mp c_12) (by omega)
  · refine lv_bipush (v := -5) C0.1 C0.2.1 d_WS_keep_15 (by decide) ?_
    exact eR_i C0 hr hlk (rfl) d_WS_keep_17
set_option maxHeartbeats 4000000 in
set_option maxRecDepth 100000 in
theorem c_WS_keep (i pa ta oa fr to0 lit : Nat) (pl tl : List Nat) (hx : L[i]? = some (pa, ta, oa, fr, to0, lit, pl, tl)) (hwn : wn < 64) : Mt l y_WS_keep w_WS_keep ({ frames := 0, cells := 0, slots := 0, locals := 0 }) g classes (tyL t) [.ref (a 0), .ref oa] (wW a t n kd em br ii oo np ea eb li rn wa wn sT sP ak ap af tt ac ct rp rt rest L) (S := Unit) (fun v _ => v = some (.int (nI wn))) (fun _ => (wW a t n kd em br ii oo np ea eb li rn (va_up wa wn (some oa)) (wn + 1) sT sP ak ap af tt ac ct rp rt rest L)) 0 0 := by
  refine Mt.of (cc := b_WS_keep) (maxL := 2) (ret := (some .int)) (own := R_WS) (by decide) rfl rfl (Nat.le_of_ble_eq_true rfl) ?_
  intro p e s m args below meth c C0 hr hlk hin A hA hB ls hl
  have hl : lv_has ls 2 [(0, .ref (a 0)), (1, .ref oa)] := hl
  refine lv_aload_n C0.1 C0.2.1 d_WS_keep_0 rfl (lv_at hl 1 rfl) ?_
  refine lv_ifnonnull (tgt := 6) C0.1 C0.2.1 d_WS_keep_1 (by decide) ?_
  refine lv_aload_n C0.1 C0.2.1 d_WS_keep_6 rfl (lv_at hl 0 rfl) ?_
  refine gf_WS_32 C0 hB.1 0 rfl rfl d_WS_keep_7 ?_
  refine lv_bipush (v := nI 64) C0.1 C0.2.1 d_WS_keep_10 (by decide) ?_
  refine lv_icmp_lt (tgt := 18) C0.1 C0.2.1 d_WS_keep_12 (by decide) (fun c_12 => ?_) (fun c_12 => ?_)
  · refine lv_aload_n C0.1 C0.2.1 d_WS_keep_18 rfl (lv_at hl 0 rfl) ?_
    refine gf_WS_28 C0 hB.1 0 rfl rfl d_WS_keep_19 ?_
    refine lv_aload_n C0.1 C0.2.1 d_WS_keep_22 rfl (lv_at hl 0 rfl) ?_
    refine gf_WS_32 C0 hB.1 0 rfl rfl d_WS_keep_23 ?_
    refine lv_aload_n C0.1 C0.2.1 d_WS_keep_26 rfl (lv_at hl 1 rfl) ?_
    refine ast_q (w' := (wW a t n kd em br ii oo np ea eb li rn (va_up wa wn (some oa)) wn sT sP ak ap af tt ac ct rp rt rest L)) (qk := 23 + (rest.length + (3 * i + 2))) (ci := 4) C0 hB 4 3 rfl rfl (wW_w2 hx) rfl (by omega) (by decide) rfl rfl d_WS_keep_27 (fun H locs hB => ?_)
    refine lv_aload_n C0.1 C0.2.1 d_WS_keep_28 rfl (lv_at hl 0 rfl) ?_
    refine lv_dup C0.1 C0.2.1 d_WS_keep_29 rfl ?_
    refine gf_WS_32 C0 hB.1 0 rfl rfl d_WS_keep_30 ?_
    refine lv_iconst (v := nI 1) C0.1 C0.2.1 d_WS_keep_33 (by decide) ?_
    refine lv_iadd C0.1 C0.2.1 d_WS_keep_34 ?_
    refine ti (show (nI wn) + (nI 1) = nI (wn + 1) from nI_add _ _) ?_
    refine pf_WS_32 (w' := (wW a t n kd em br ii oo np ea eb li rn (va_up wa wn (some oa)) (wn + 1) sT sP ak ap af tt ac ct rp rt rest L)) C0 hB 0 rfl (Nat.le_of_ble_eq_true rfl) rfl rfl rfl d_WS_keep_35 (fun H locs hB => ?_)
    refine lv_aload_n C0.1 C0.2.1 d_WS_keep_38 rfl (lv_at hl 0 rfl) ?_
    refine gf_WS_32 C0 hB.1 0 rfl rfl d_WS_keep_39 ?_
    refine lv_iconst (v := nI 1) C0.1 C0.2.1 d_WS_keep_42 (by decide) ?_
    refine lv_isub C0.1 C0.2.1 d_WS_keep_43 ?_
    refine ti (show (nI (wn + 1)) - (nI 1) = nI wn from (pk_sub (by omega) : nI (wn + 1) - nI 1 = nI (wn + 1 - 1))) ?_
    exact eM_i C0 hr hlk () hB (rfl) (Nat.le_refl _) (Nat.le_refl _) d_WS_keep_44
  · exact absurd ((nI_ltI (by omega) (by omega)).mpr hwn) c_12
end CALLS3

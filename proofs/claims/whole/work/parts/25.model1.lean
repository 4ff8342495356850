/-- THE REFERENCE'S WORLD: 19 cells at b 0 .. b 18, then the rest -/
def mW (b : Nat → Nat) (t : Nat → ClassId) (n : Nat) (kd : Nat → Nat) (em : Nat → Bool) (br : Nat → Bool) (ii : Nat → Int32) (oo : Nat → Int32) (np : Nat) (ea : Nat → Nat) (eb : Nat → Nat) (li : Nat → Nat) (rn : Nat → Bool) (wp : Nat → Nat) (wl : Nat → Nat) (wf : Nat → Nat) (wt : Nat → Nat) (wn : Nat) (ct : Nat → Nat) (sT : Nat → Bool) (sP : Nat → Bool) (sa : Nat → Nat) (sb : Nat → Nat) (rest : va_W) : va_W := [(b 0, .inr (5, [.ref (b 1), .ref (b 2), .ref (b 3), .ref (b 4), .ref (b 5), .int (nI n), .ref (b 6), .ref (b 7), .ref (b 8), .ref (b 9), .int (nI np), .ref (b 10), .ref (b 11), .ref (b 12), .ref (b 13), .int (nI wn), .ref (b 14), .ref (b 15), .ref (b 16), .ref (b 17), .ref (b 18)])), (b 1, .inl (t 0, 48, .inl (fun j => nI (kd j)))), (b 2, .inl (t 1, 48, .inl (fun j => bI (em j)))), (b 3, .inl (t 1, 48, .inl (fun j => bI (br j)))), (b 4, .inl (t 0, 48, .inl ii)), (b 5, .inl (t 0, 48, .inl oo)), (b 6, .inl (t 0, 96, .inl (fun j => nI (ea j)))), (b 7, .inl (t 0, 96, .inl (fun j => nI (eb j)))), (b 8, .inl (t 2, 96, .inr (.inl (fun j => lN (li j))))), (b 9, .inl (t 1, 96, .inl (fun j => bI (rn j)))), (b 10, .inl (t 0, 3072, .inl (fun j => nI (wp j)))), (b 11, .inl (t 0, 64, .inl (fun j => nI (wl j)))), (b 12, .inl (t 0, 64, .inl (fun j => nI (wf j)))), (b 13, .inl (t 0, 64, .inl (fun j => nI (wt j)))), (b 14, .inl (t 2, 48, .inr (.inl (fun j => lN (ct j))))), (b 15, .inl (t 1, 48, .inl (fun j => bI (sT j)))), (b 16, .inl (t 1, 96, .inl (fun j => bI (sP j)))), (b 17, .inl (t 0, 48, .inl (fun j => nI (sa j)))), (b 18, .inl (t 0, 48, .inl (fun j => nI (sb j))))] ++ rest
theorem bI_or {x y : Bool} : bI x ||| bI y = bI (x || y) := by cases x <;> cases y <;> rfl
def goB (kd : Nat → Nat) (ii oo : Nat → Int32) (sT sP : Nat → Bool) (p u v : Nat) : Bool := (!sP p && (!sT u && !sT v)) && letB kd ii oo u v
theorem go_1 {kd : Nat → Nat} {ii oo : Nat → Int32} {sT sP : Nat → Bool} {p u v : Nat} (h : sP p = true) : goB kd ii oo sT sP p u v = false := by unfold goB; rw [h]; rfl
theorem go_2 {kd : Nat → Nat} {ii oo : Nat → Int32} {sT sP : Nat → Bool} {p u v : Nat} (h : sT u = true) : goB kd ii oo sT sP p u v = false := by unfold goB; rw [h]; simp
theorem go_3 {kd : Nat → Nat} {ii oo : Nat → Int32} {sT sP : Nat → Bool} {p u v : Nat} (h : sT v = true) : goB kd ii oo sT sP p u v = false := by unfold goB; rw [h]; simp
theorem go_4 {kd : Nat → Nat} {ii oo : Nat → Int32} {sT sP : Nat → Bool} {p u v : Nat} (h : letB kd ii oo u v = false) : goB kd ii oo sT sP p u v = false := by unfold goB; rw [h, Bool.and_false]
theorem go_5 {kd : Nat → Nat} {ii oo : Nat → Int32} {sT sP : Nat → Bool} {p u v : Nat} (h1 : sP p = false) (h2 : sT u = false) (h3 : sT v = false) (h : letB kd ii oo u v = true) : goB kd ii oo sT sP p u v = true := by unfold goB; rw [h, h1, h2, h3]; rfl
theorem let_1 {kd : Nat → Nat} {ii oo : Nat → Int32} {u v : Nat} (hk : kd u < 2 ^ 31) (h : nI (kd u) = nI 1) (h2 : ¬ oo u = nI v) : letB kd ii oo u v = false := by unfold letB; rw [lb_3 hk h h2]; rfl
theorem let_2 {kd : Nat → Nat} {ii oo : Nat → Int32} {u v : Nat} (hk : kd v < 2 ^ 31) (h : nI (kd v) = nI 1) (h2 : ¬ ii v = nI u) : letB kd ii oo u v = false := by unfold letB; rw [lb_3 hk h h2, Bool.and_false]
theorem let_t {kd : Nat → Nat} {ii oo : Nat → Int32} {u v : Nat} (h1 : (decide (kd u ≠ 1) || decide (oo u = nI v)) = true) (h2 : (decide (kd v ≠ 1) || decide (ii v = nI u)) = true) : letB kd ii oo u v = true := by unfold letB; rw [h1, h2]; rfl
section MODEL1
variable {l : Launch} {g : va_G} {t : Nat → ClassId} {b : Nat → Nat} {n : Nat} {kd : Nat → Nat} {em : Nat → Bool} {br : Nat → Bool} {ii : Nat → Int32} {oo : Nat → Int32} {np : Nat} {ea : Nat → Nat} {eb : Nat → Nat} {li : Nat → Nat} {rn : Nat → Bool} {wp : Nat → Nat} {wl : Nat → Nat} {wf : Nat → Nat} {wt : Nat → Nat} {wn : Nat} {ct : Nat → Nat} {sT : Nat → Bool} {sP : Nat → Bool} {sa : Nat → Nat} {sb : Nat → Nat} {rest : va_W}
set_option maxHeartbeats 4000000 in
set_option maxRecDepth 100000 in
theorem c_MO_isThing (x : Int32) (hn : n ≤ 48) : Rd l y_MO_isThing w_MO_isThing ({ frames := 0, cells := 0, slots := 0, locals := 0 }) g classes (tyL t) [.ref (b 0), .int x] (mW b t n kd em br ii oo np ea eb li rn wp wl wf wt wn ct sT sP sa sb rest) (some (.int (bI (hasB n x)))) := by
  refine Rd.of (cc := b_MO_isThing) (maxL := 2) (ret := (some .boolean)) (own := R_MO) (by decide) rfl rfl (Nat.le_of_ble_eq_true rfl) ?_
  intro p e s m args below meth c C0 hr hlk hP ls hl
  have hl : lv_has ls 2 [(0, .ref (b 0)), (1, .int x)] := hl
  refine lv_iload_n C0.1 C0.2.1 d_MO_isThing_0 rfl (lv_at hl 1 rfl) ?_
  refine lv_if_lt (tgt := 16) C0.1 C0.2.1 d_MO_isThing_1 (by decide) (fun c_1 => ?_) (fun c_1 => ?_)
  · refine lv_iconst (v := nI 0) C0.1 C0.2.1 d_MO_isThing_16 (by decide) ?_
    exact eR_z C0 hr hlk (b := hasB n x) (by rw [hasB_neg c_1]; rfl) rfl d_MO_isThing_17
  · refine lv_iload_n C0.1 C0.2.1 d_MO_isThing_4 rfl (lv_at hl 1 rfl) ?_
    refine lv_aload_n C0.1 C0.2.1 d_MO_isThing_5 rfl (lv_at hl 0 rfl) ?_
    refine gf_MO_66 C0 hP 0 rfl rfl d_MO_isThing_6 ?_
    refine lv_icmp_ge (tgt := 16) C0.1 C0.2.1 d_MO_isThing_9 (by decide) (fun c_9 => ?_) (fun c_9 => ?_)
    · refine lv_iconst (v := nI 0) C0.1 C0.2.1 d_MO_isThing_16 (by decide) ?_
      exact eR_z C0 hr hlk (b := hasB n x) (by rw [hasB_ge (by omega) c_9]; rfl) rfl d_MO_isThing_17
    · refine lv_iconst (v := nI 1) C0.1 C0.2.1 d_MO_isThing_12 (by decide) ?_
      refine lv_goto (tgt := 17) C0.1 C0.2.1 d_MO_isThing_13 (by decide) ?_
      exact eR_z C0 hr hlk (b := hasB n x) (by rw [hasB_t (by omega) c_1 c_9]; rfl) rfl d_MO_isThing_17
set_option maxHeartbeats 4000000 in
set_option maxRecDepth 100000 in
theorem c_MO_isWay (x : Int32) (hn : wn ≤ 64) : Rd l y_MO_isWay w_MO_isWay ({ frames := 0, cells := 0, slots := 0, locals := 0 }) g classes (tyL t) [.ref (b 0), .int x] (mW b t n kd em br ii oo np ea eb li rn wp wl wf wt wn ct sT sP sa sb rest) (some (.int (bI (hasB wn x)))) := by
  refine Rd.of (cc := b_MO_isWay) (maxL := 2) (ret := (some .boolean)) (own := R_MO) (by decide) rfl rfl (Nat.le_of_ble_eq_true rfl) ?_
  intro p e s m args below meth c C0 hr hlk hP ls hl
  have hl : lv_has ls 2 [(0, .ref (b 0)), (1, .int x)] := hl
  refine lv_iload_n C0.1 C0.2.1 d_MO_isWay_0 rfl (lv_at hl 1 rfl) ?_
  refine lv_if_lt (tgt := 16) C0.1 C0.2.1 d_MO_isWay_1 (by decide) (fun c_1 => ?_) (fun c_1 => ?_)
  · refine lv_iconst (v := nI 0) C0.1 C0.2.1 d_MO_isWay_16 (by decide) ?_
    exact eR_z C0 hr hlk (b := hasB wn x) (by rw [hasB_neg c_1]; rfl) rfl d_MO_isWay_17
  · refine lv_iload_n C0.1 C0.2.1 d_MO_isWay_4 rfl (lv_at hl 1 rfl) ?_
    refine lv_aload_n C0.1 C0.2.1 d_MO_isWay_5 rfl (lv_at hl 0 rfl) ?_
    refine gf_MO_116 C0 hP 0 rfl rfl d_MO_isWay_6 ?_
    refine lv_icmp_ge (tgt := 16) C0.1 C0.2.1 d_MO_isWay_9 (by decide) (fun c_9 => ?_) (fun c_9 => ?_)
    · refine lv_iconst (v := nI 0) C0.1 C0.2.1 d_MO_isWay_16 (by decide) ?_
      exact eR_z C0 hr hlk (b := hasB wn x) (by rw [hasB_ge (by omega) c_9]; rfl) rfl d_MO_isWay_17
    · refine lv_iconst (v := nI 1) C0.1 C0.2.1 d_MO_isWay_12 (by decide) ?_
      refine lv_goto (tgt := 17) C0.1 C0.2.1 d_MO_isWay_13 (by decide) ?_
      exact eR_z C0 hr hlk (b := hasB wn x) (by rw [hasB_t (by omega) c_1 c_9]; rfl) rfl d_MO_isWay_17
set_option maxHeartbeats 4000000 in
set_option maxRecDepth 100000 in
theorem c_MO_isTank (x : Int32) (hn : n ≤ 48) (hk : ∀ j, kd j < 3) : Rd l y_MO_isTank w_MO_isTank ({ frames := 1, cells := 0, slots := 0, locals := 21 }) g classes (tyL t) [.ref (b 0), .int x] (mW b t n kd em br ii oo np ea eb li rn wp wl wf wt wn ct sT sP sa sb rest) (some (.int (bI (isK n kd x 0)))) := by
  refine Rd.of (cc := b_MO_isTank) (maxL := 2) (ret := (some .boolean)) (own := R_MO) (by decide) rfl rfl (Nat.le_of_ble_eq_true rfl) ?_
  intro p e s m args below meth c C0 hr hlk hP ls hl
  have hl : lv_has ls 2 [(0, .ref (b 0)), (1, .int x)] := hl
  refine lv_aload_n C0.1 C0.2.1 d_MO_isTank_0 rfl (lv_at hl 0 rfl) ?_
  refine lv_iload_n C0.1 C0.2.1 d_MO_isTank_1 rfl (lv_at hl 1 rfl) ?_
  refine cR (As := [.int x]) (rest := []) C0 (c_MO_isThing x hn) (q_MO_74 C0.2.2.2.2.1 rfl rfl ⟨Nat.le_of_ble_eq_true rfl, Nat.le_of_ble_eq_true rfl⟩) (ci := 5) (q0 := 0) rfl rfl rfl hP hl.1 rfl rfl (Nat.le_of_ble_eq_true rfl) d_MO_isTank_2 ⟨Nat.zero_le _, Nat.zero_le _⟩ ?_
  refine W.eq (g2 := F0 m 5 ls [.int (bI (hasB n x))]) rfl ?_
  refine lv_if_eq (tgt := 21) C0.1 C0.2.1 d_MO_isTank_5 (by decide) (fun c_5 => ?_) (fun c_5 => ?_)
  · refine lv_iconst (v := nI 0) C0.1 C0.2.1 d_MO_isTank_21 (by decide) ?_
    exact eR_z C0 hr hlk (b := isK n kd x 0) (by rw [isK_n (bI_0.mp c_5)]; rfl) rfl d_MO_isTank_22
  · have c_5 := bI_n0.mp c_5
    obtain ⟨j, hj, rfl⟩ := hasB_ex (by omega) c_5
    refine lv_aload_n C0.1 C0.2.1 d_MO_isTank_8 rfl (lv_at hl 0 rfl) ?_
    refine gf_MO_9 C0 hP 0 rfl rfl d_MO_isTank_9 ?_
    refine lv_iload_n C0.1 C0.2.1 d_MO_isTank_12 rfl (lv_at hl 1 rfl) ?_
    refine ald_i C0 hP 1 0 rfl rfl (by omega) (by decide) d_MO_isTank_13 ?_
    refine lv_if_ne (tgt := 21) C0.1 C0.2.1 d_MO_isTank_14 (by decide) (fun c_14 => ?_) (fun c_14 => ?_)
    · refine lv_iconst (v := nI 0) C0.1 C0.2.1 d_MO_isTank_21 (by decide) ?_
      exact eR_z C0 hr hlk (b := isK n kd (nI j) 0) (by rw [isK_j hj (by have := hk j; omega) (by omega)]; rw [decide_eq_false (fun q => c_14 (by rw [q]; rfl))]; rfl) rfl d_MO_isTank_22
    · refine lv_iconst (v := nI 1) C0.1 C0.2.1 d_MO_isTank_17 (by decide) ?_
      refine lv_goto (tgt := 22) C0.1 C0.2.1 d_MO_isTank_18 (by decide) ?_
      exact eR_z C0 hr hlk (b := isK n kd (nI j) 0) (by rw [isK_j hj (by have := hk j; omega) (by omega)]; rw [decide_eq_true ((nI_eq (by have := hk j; omega) (by decide)).mp c_14)]; rfl) rfl d_MO_isTank_22
set_option maxHeartbeats 4000000 in
set_option maxRecDepth 100000 in
theorem c_MO_thing_full (k0 : Int32) (hn : n = 48) : Rd l y_MO_thing w_MO_thing ({ frames := 0, cells := 0, slots := 0, locals := 0 }) g classes (tyL t) [.ref (b 0), .int k0] (mW b t n kd em br ii oo np ea eb li rn wp wl wf wt wn ct sT sP sa sb rest) (some (.int (-5))) := by
  refine Rd.of (cc := b_MO_thing) (maxL := 2) (ret := (some .int)) (own := R_MO) (by decide) rfl rfl (Nat.le_of_ble_eq_true rfl) ?_
  intro p e s m args below meth c C0 hr hlk hP ls hl
  have hl : lv_has ls 2 [(0, .ref (b 0)), (1, .int k0)] := hl
  refine lv_aload_n C0.1 C0.2.1 d_MO_thing_0 rfl (lv_at hl 0 rfl) ?_
  refine gf_MO_66 C0 hP 0 rfl rfl d_MO_thing_1 ?_
  refine lv_bipush (v := nI 48) C0.1 C0.2.1 d_MO_thing_4 (by decide) ?_
  refine lv_icmp_ne (tgt := 12) C0.1 C0.2.1 d_MO_thing_6 (by decide) (fun c_6 => ?_) (fun c_6 => ?_)
  · exact absurd (by rw [hn]) c_6
  · refine lv_bipush (v := -5) C0.1 C0.2.1 d_MO_thing_9 (by decide) ?_
    exact eR_i C0 hr hlk (rfl) d_MO_thing_11
set_option maxHeartbeats 4000000 in
set_option maxRecDepth 100000 in
theorem c_MO_thing (k0 : Nat) (hn : n < 48) : Mt l y_MO_thing w_MO_thing ({ frames := 0, cells := 0, slots := 0, locals := 0 }) g classes (tyL t) [.ref (b 0), .int (nI k0)] (mW b t n kd em br ii oo np ea eb li rn wp wl wf wt wn ct sT sP sa sb rest) (S := Unit) (fun v _ => v = some (.int (nI n))) (fun _ => (mW b t (n + 1) (va_up kd n k0) em br (va_up ii n (-1)) (va_up oo n (-1)) np ea eb li rn wp wl wf wt wn ct sT sP sa sb rest)) 0 0 := by
  refine Mt.of (cc := b_MO_thing) (maxL := 2) (ret := (some .int)) (own := R_MO) (by decide) rfl rfl (Nat.le_of_ble_eq_true rfl) ?_
  intro p e s m args below meth c C0 hr hlk hin A hA hB ls hl
  have hl : lv_has ls 2 [(0, .ref (b 0)), (1, .int (nI k0))] := hl
  refine lv_aload_n C0.1 C0.2.1 d_MO_thing_0 rfl (lv_at hl 0 rfl) ?_
  refine gf_MO_66 C0 hB.1 0 rfl rfl d_MO_thing_1 ?_
  refine lv_bipush (v := nI 48) C0.1 C0.2.1 d_MO_thing_4 (by decide) ?_
  refine lv_icmp_ne (tgt := 12) C0.1 C0.2.1 d_MO_thing_6 (by decide) (fun c_6 => ?_) (fun c_6 => ?_)
  · refine lv_aload_n C0.1 C0.2.1 d_MO_thing_12 rfl (lv_at hl 0 rfl) ?_
    refine gf_MO_9 C0 hB.1 0 rfl rfl d_MO_thing_13 ?_
    refine lv_aload_n C0.1 C0.2.1 d_MO_thing_16 rfl (lv_at hl 0 rfl) ?_
    refine gf_MO_66 C0 hB.1 0 rfl rfl d_MO_thing_17 ?_
    refine lv_iload_n C0.1 C0.2.1 d_MO_thing_20 rfl (lv_at hl 1 rfl) ?_
    refine ast_i (w' := (mW b t n (va_up kd n k0) em br ii oo np ea eb li rn wp wl wf wt wn ct sT sP sa sb rest)) C0 hB 1 0 rfl rfl (by omega) (by decide) up_nI rfl d_MO_thing_21 (fun H locs hB => ?_)
    refine lv_aload_n C0.1 C0.2.1 d_MO_thing_22 rfl (lv_at hl 0 rfl) ?_
    refine gf_MO_20 C0 hB.1 0 rfl rfl d_MO_thing_23 ?_
    refine lv_aload_n C0.1 C0.2.1 d_MO_thing_26 rfl (lv_at hl 0 rfl) ?_
    refine gf_MO_66 C0 hB.1 0 rfl rfl d_MO_thing_27 ?_
    refine lv_iconst (v := -1) C0.1 C0.2.1 d_MO_thing_30 (by decide) ?_
    refine ast_i (w' := (mW b t n (va_up kd n k0) em br (va_up ii n (-1)) oo np ea eb li rn wp wl wf wt wn ct sT sP sa sb rest)) C0 hB 4 0 rfl rfl (by omega) (by decide) up_32 rfl d_MO_thing_31 (fun H locs hB => ?_)
    refine lv_aload_n C0.1 C0.2.1 d_MO_thing_32 rfl (lv_at hl 0 rfl) ?_
    refine gf_MO_23 C0 hB.1 0 rfl rfl d_MO_thing_33 ?_
    refine lv_aload_n C0.1 C0.2.1 d_MO_thing_36 rfl (lv_at hl 0 rfl) ?_
    refine gf_MO_66 C0 hB.1 0 rfl rfl d_MO_thing_37 ?_
    refine lv_iconst (v := -1) C0.1 C0.2.1 d_MO_thing_40 (by decide) ?_
    refine ast_i (w' := (mW b t n (va_up kd n k0) em br (va_up ii n (-1)) (va_up oo n (-1)) np ea eb li rn wp wl wf wt wn ct sT sP sa sb rest)) C0 hB 5 0 rfl rfl (by omega) (by decide) up_32 rfl d_MO_thing_41 (fun H locs hB => ?_)
    refine lv_aload_n C0.1 C0.2.1 d_MO_thing_42 rfl (lv_at hl 0 rfl) ?_
    refine lv_dup C0.1 C0.2.1 d_MO_thing_43 rfl ?_
    refine gf_MO_66 C0 hB.1 0 rfl rfl d_MO_thing_44 ?_
    refine lv_iconst (v := nI 1) C0.1 C0.2.1 d_MO_thing_47 (by decide) ?_
    refine lv_iadd C0.1 C0.2.1 d_MO_thing_48 ?_
    refine ti (show (nI n) + (nI 1) = nI (n + 1) from nI_add _ _) ?_
    refine pf_MO_66 (w' := (mW b t (n + 1) (va_up kd n k0) em br (va_up ii n (-1)) (va_up oo n (-1)) np ea eb li rn wp wl wf wt wn ct sT sP sa sb rest)) C0 hB 0 rfl (Nat.le_of_ble_eq_true rfl) rfl rfl rfl d_MO_thing_49 (fun H locs hB => ?_)
    refine lv_aload_n C0.1 C0.2.1 d_MO_thing_52 rfl (lv_at hl 0 rfl) ?_
    refine gf_MO_66 C0 hB.1 0 rfl rfl d_MO_thing_53 ?_
    refine lv_iconst (v := nI 1) C0.1 C0.2.1 d_MO_thing_56 (by decide) ?_
    refine lv_isub C0.1 C0.2.1 d_MO_thing_57 ?_
    refine ti (show (nI (n + 1)) - (nI 1) = nI n from (pk_sub (by omega) : nI (n + 1) - nI 1 = nI (n + 1 - 1))) ?_
    exact eM_i C0 hr hlk () hB (rfl) (Nat.le_refl _) (Nat.le_refl _) d_MO_thing_58
  · exact absurd ((nI_eq (by omega) (by decide)).mp c_6) (by omega)
set_option maxHeartbeats 4000000 in
set_option maxRecDepth 100000 in
theorem c_MO_pump_full (hn : n = 48) : Rd l y_MO_pump w_MO_pump ({ frames := 1, cells := 0, slots := 0, locals := 21 }) g classes (tyL t) [.ref (b 0)] (mW b t n kd em br ii oo np ea eb li rn wp wl wf wt wn ct sT sP sa sb rest) (some (.int (-5))) := by
  refine Rd.of (cc := b_MO_pump) (maxL := 1) (ret := (some .int)) (own := R_MO) (by decide) rfl rfl (Nat.le_of_ble_eq_true rfl) ?_
  intro p e s m args below meth c C0 hr hlk hP ls hl
  have hl : lv_has ls 1 [(0, .ref (b 0))] := hl
  refine lv_aload_n C0.1 C0.2.1 d_MO_pump_0 rfl (lv_at hl 0 rfl) ?_
  refine lv_iconst (v := nI 1) C0.1 C0.2.1 d_MO_pump_1 (by decide) ?_
  refine cR (As := [.int (nI 1)]) (rest := []) C0 (c_MO_thing_full (nI 1) hn) (q_MO_70 C0.2.2.2.2.1 rfl rfl ⟨Nat.le_of_ble_eq_true rfl, Nat.le_of_ble_eq_true rfl⟩) (ci := 5) (q0 := 0) rfl rfl rfl hP hl.1 rfl rfl (Nat.le_of_ble_eq_true rfl) d_MO_pump_2 ⟨Nat.zero_le _, Nat.zero_le _⟩ ?_
  refine W.eq (g2 := F0 m 5 ls [.int (-5)]) rfl ?_
  exact eR_i C0 hr hlk (rfl) d_MO_pump_5
set_option maxHeartbeats 4000000 in
set_option maxRecDepth 100000 in
theorem c_MO_pump (hn : n < 48) : Mt l y_MO_pump w_MO_pump ({ frames := 1, cells := 0, slots := 0, locals := 21 }) g classes (tyL t) [.ref (b 0)] (mW b t n kd em br ii oo np ea eb li rn wp wl wf wt wn ct sT sP sa sb rest) (S := Unit) (fun v _ => v = some (.int (nI n))) (fun _ => (mW b t (n + 1) (va_up kd n 1) em br (va_up ii n (-1)) (va_up oo n (-1)) np ea eb li rn wp wl wf wt wn ct sT sP sa sb rest)) 0 0 := by
  refine Mt.of (cc := b_MO_pump) (maxL := 1) (ret := (some .int)) (own := R_MO) (by decide) rfl rfl (Nat.le_of_ble_eq_true rfl) ?_
  intro p e s m args below meth c C0 hr hlk hin A hA hB ls hl
  have hl : lv_has ls 1 [(0, .ref (b 0))] := hl
  refine lv_aload_n C0.1 C0.2.1 d_MO_pump_0 rfl (lv_at hl 0 rfl) ?_
  refine lv_iconst (v := nI 1) C0.1 C0.2.1 d_MO_pump_1 (by decide) ?_
  refine cM (As := [.int (nI 1)]) (rest := []) C0 (c_MO_thing 1 hn) (q_MO_70 C0.2.2.2.2.1 rfl rfl ⟨Nat.le_of_ble_eq_true rfl, Nat.le_of_ble_eq_true rfl⟩) (ci := 5) (q0 := 0) rfl rfl rfl hB hl.1 rfl rfl (Nat.le_of_ble_eq_true rfl) d_MO_pump_2 ⟨Nat.zero_le _, Nat.zero_le _⟩ (fun v_2 u_2 H locs hp_2 hB => ?_)
  obtain rfl := hp_2
  have hB : wB g classes A s.heap (mW b t (n + 1) (va_up kd n 1) em br (va_up ii n (-1)) (va_up oo n (-1)) np ea eb li rn wp wl wf wt wn ct sT sP sa sb rest) H locs := hB
  refine W.eq (g2 := F0 m 5 ls [.int (nI n)]) rfl ?_
  exact eM_i C0 hr hlk () hB (rfl) (Nat.le_refl _) (Nat.le_refl _) d_MO_pump_5
set_option maxHeartbeats 4000000 in
set_option maxRecDepth 100000 in
theorem c_MO_valve_full (hn : n = 48) : Rd l y_MO_valve w_MO_valve ({ frames := 1, cells := 0, slots := 0, locals := 21 }) g classes (tyL t) [.ref (b 0)] (mW b t n kd em br ii oo np ea eb li rn wp wl wf wt wn ct sT sP sa sb rest) (some (.int (-5))) := by
  refine Rd.of (cc := b_MO_valve) (maxL := 1) (ret := (some .int)) (own := R_MO) (by decide) rfl rfl (Nat.le_of_ble_eq_true rfl) ?_
  intro p e s m args below meth c C0 hr hlk hP ls hl
  have hl : lv_has ls 1 [(0, .ref (b 0))] := hl
  refine lv_aload_n C0.1 C0.2.1 d_MO_valve_0 rfl (lv_at hl 0 rfl) ?_
  refine lv_iconst (v := nI 2) C0.1 C0.2.1 d_MO_valve_1 (by decide) ?_
  refine cR (As := [.int (nI 2)]) (rest := []) C0 (c_MO_thing_full (nI 2) hn) (q_MO_70 C0.2.2.2.2.1 rfl rfl ⟨Nat.le_of_ble_eq_true rfl, Nat.le_of_ble_eq_true rfl⟩) (ci := 5) (q0 := 0) rfl rfl rfl hP hl.1 rfl rfl (Nat.le_of_ble_eq_true rfl) d_MO_valve_2 ⟨Nat.zero_le _, Nat.zero_le _⟩ ?_
  refine W.eq (g2 := F0 m 5 ls [.int (-5)]) rfl ?_
  exact eR_i C0 hr hlk (rfl) d_MO_valve_5
set_option maxHeartbeats 4000000 in
set_option maxRecDepth 100000 in
theorem c_MO_valve (hn : n < 48) : Mt l y_MO_valve w_MO_valve ({ frames := 1, cells := 0, slots := 0, locals := 21 }) g classes (tyL t) [.ref (b 0)] (mW b t n kd em br ii oo np ea eb li rn wp wl wf wt wn ct sT sP sa sb rest) (S := Unit) (fun v _ => v = some (.int (nI n))) (fun _ => (mW b t (n + 1) (va_up kd n 2) em br (va_up ii n (-1)) (va_up oo n (-1)) np ea eb li rn wp wl wf wt wn ct sT sP sa sb rest)) 0 0 := by
  refine Mt.of (cc := b_MO_valve) (maxL := 1) (ret := (some .int)) (own := R_MO) (by decide) rfl rfl (Nat.le_of_ble_eq_true rfl) ?_
  intro p e s m args below meth c C0 hr hlk hin A hA hB ls hl
  have hl : lv_has ls 1 [(0, .ref (b 0))] := hl
  refine lv_aload_n C0.1 C0.2.1 d_MO_valve_0 rfl (lv_at hl 0 rfl) ?_
  refine lv_iconst (v := nI 2) C0.1 C0.2.1 d_MO_valve_1 (by decide) ?_
  refine cM (As := [.int (nI 2)]) (rest := []) C0 (c_MO_thing 2 hn) (q_MO_70 C0.2.2.2.2.1 rfl rfl ⟨Nat.le_of_ble_eq_true rfl, Nat.le_of_ble_eq_true rfl⟩) (ci := 5) (q0 := 0) rfl rfl rfl hB hl.1 rfl rfl (Nat.le_of_ble_eq_true rfl) d_MO_valve_2 ⟨Nat.zero_le _, Nat.zero_le _⟩ (fun v_2 u_2 H locs hp_2 hB => ?_)
  obtain rfl := hp_2
  have hB : wB g classes A s.heap (mW b t (n + 1) (va_up kd n 2) em br (va_up ii n (-1)) (va_up oo n (-1)) np ea eb li rn wp wl wf wt wn ct sT sP sa sb rest) H locs := hB
  refine W.eq (g2 := F0 m 5 ls [.int (nI n)]) rfl ?_
  exact eM_i C0 hr hlk () hB (rfl) (Nat.le_refl _) (Nat.le_refl _) d_MO_valve_5
set_option maxHeartbeats 4000000 in
set_option maxRecDepth 100000 in
theorem c_MO_tank_full (b0 : Bool) (hn : n = 48) : Rd l y_MO_tank w_MO_tank ({ frames := 1, cells := 0, slots := 0, locals := 21 }) g classes (tyL t) [.ref (b 0), .int (bI b0)] (mW b t n kd em br ii oo np ea eb li rn wp wl wf wt wn ct sT sP sa sb rest) (some (.int (-5))) := by
  refine Rd.of (cc := b_MO_tank) (maxL := 3) (ret := (some .int)) (own := R_MO) (by decide) rfl rfl (Nat.le_of_ble_eq_true rfl) ?_
  intro p e s m args below meth c C0 hr hlk hP ls hl
  have hl : lv_has ls 3 [(0, .ref (b 0)), (1, .int (bI b0))] := hl
  refine lv_aload_n C0.1 C0.2.1 d_MO_tank_0 rfl (lv_at hl 0 rfl) ?_
  refine lv_iconst (v := nI 0) C0.1 C0.2.1 d_MO_tank_1 (by decide) ?_
  refine cR (As := [.int (nI 0)]) (rest := []) C0 (c_MO_thing_full (nI 0) hn) (q_MO_70 C0.2.2.2.2.1 rfl rfl ⟨Nat.le_of_ble_eq_true rfl, Nat.le_of_ble_eq_true rfl⟩) (ci := 5) (q0 := 0) rfl rfl rfl hP hl.1 rfl rfl (Nat.le_of_ble_eq_true rfl) d_MO_tank_2 ⟨Nat.zero_le _, Nat.zero_le _⟩ ?_
  refine W.eq (g2 := F0 m 5 ls [.int (-5)]) rfl ?_
  refine lv_istore_n (lv' := [(2, .int (-5)), (0, .ref (b 0)), (1, .int (bI b0))]) C0.1 C0.2.1 d_MO_tank_5 rfl hl (by decide) rfl (fun ls hl => ?_)
  refine lv_iload_n C0.1 C0.2.1 d_MO_tank_6 rfl (lv_at hl 0 rfl) ?_
  refine lv_if_lt (tgt := 17) C0.1 C0.2.1 d_MO_tank_7 (by decide) (fun c_7 => ?_) (fun c_7 => ?_)
  · refine lv_iload_n C0.1 C0.2.1 d_MO_tank_17 rfl (lv_at hl 0 rfl) ?_
    exact eR_i C0 hr hlk (rfl) d_MO_tank_18
  · exact absurd (by decide) c_7
set_option maxHeartbeats 4000000 in
set_option maxRecDepth 100000 in
theorem c_MO_tank (b0 : Bool) (hn : n < 48) : Mt l y_MO_tank w_MO_tank ({ frames := 1, cells := 0, slots := 0, locals := 21 }) g classes (tyL t) [.ref (b 0), .int (bI b0)] (mW b t n kd em br ii oo np ea eb li rn wp wl wf wt wn ct sT sP sa sb rest) (S := Unit) (fun v _ => v = some (.int (nI n))) (fun _ => (mW b t (n + 1) (va_up kd n 0) (va_up em n b0) br (va_up ii n (-1)) (va_up oo n (-1)) np ea eb li rn wp wl wf wt wn ct sT sP sa sb rest)) 0 0 := by
  refine Mt.of (cc := b_MO_tank) (maxL := 3) (ret := (some .int)) (own := R_MO) (by decide) rfl rfl (Nat.le_of_ble_eq_true rfl) ?_
  intro p e s m args below meth c C0 hr hlk hin A hA hB ls hl
  have hl : lv_has ls 3 [(0, .ref (b 0)), (1, .int (bI b0))] := hl
  refine lv_aload_n C0.1 C0.2.1 d_MO_tank_0 rfl (lv_at hl 0 rfl) ?_
  refine lv_iconst (v := nI 0) C0.1 C0.2.1 d_MO_tank_1 (by decide) ?_
  refine cM (As := [.int (nI 0)]) (rest := []) C0 (c_MO_thing 0 hn) (q_MO_70 C0.2.2.2.2.1 rfl rfl ⟨Nat.le_of_ble_eq_true rfl, Nat.le_of_ble_eq_true rfl⟩) (ci := 5) (q0 := 0) rfl rfl rfl hB hl.1 rfl rfl (Nat.le_of_ble_eq_true rfl) d_MO_tank_2 ⟨Nat.zero_le _, Nat.zero_le _⟩ (fun v_2 u_2 H locs hp_2 hB => ?_)
  obtain rfl := hp_2
  have hB : wB g classes A s.heap (mW b t (n + 1) (va_up kd n 0) em br (va_up ii n (-1)) (va_up oo n (-1)) np ea eb li rn wp wl wf wt wn ct sT sP sa sb rest) H locs := hB
  refine W.eq (g2 := F0 m 5 ls [.int (nI n)]) rfl ?_
  refine lv_istore_n (lv' := [(2, .int (nI n)), (0, .ref (b 0)), (1, .int (bI b0))]) C0.1 C0.2.1 d_MO_tank_5 rfl hl (by decide) rfl (fun ls hl => ?_)
  refine lv_iload_n C0.1 C0.2.1 d_MO_tank_6 rfl (lv_at hl 0 rfl) ?_
  refine lv_if_lt (tgt := 17) C0.1 C0.2.1 d_MO_tank_7 (by decide) (fun c_7 => ?_) (fun c_7 => ?_)
  · exact absurd c_7 (nI_pos (by omega))
  · refine lv_aload_n C0.1 C0.2.1 d_MO_tank_10 rfl (lv_at hl 1 rfl) ?_
    refine gf_MO_13 C0 hB.1 0 rfl rfl d_MO_tank_11 ?_
    refine lv_iload_n C0.1 C0.2.1 d_MO_tank_14 rfl (lv_at hl 0 rfl) ?_
    refine lv_iload_n C0.1 C0.2.1 d_MO_tank_15 rfl (lv_at hl 2 rfl) ?_
    refine ast_z (w' := (mW b t (n + 1) (va_up kd n 0) (va_up em n b0) br (va_up ii n (-1)) (va_up oo n (-1)) np ea eb li rn wp wl wf wt wn ct sT sP sa sb rest)) C0 hB 2 1 rfl rfl (by omega) (by decide) up_bI rfl d_MO_tank_16 (fun H locs hB => ?_)
    refine lv_iload_n C0.1 C0.2.1 d_MO_tank_17 rfl (lv_at hl 0 rfl) ?_
    exact eM_i C0 hr hlk () hB (rfl) (Nat.le_refl _) (Nat.le_refl _) d_MO_tank_18
set_option maxHeartbeats 4000000 in
set_option maxRecDepth 100000 in
theorem c_MO_pipe_no (x y : Int32) (z : Int64) (hn : n ≤ 48) (hnp : np ≤ 96) (hno : ¬ pipR n np x y z = 0) : Rd l y_MO_pipe w_MO_pipe ({ frames := 1, cells := 0, slots := 0, locals := 21 }) g classes (tyL t) [.ref (b 0), .int x, .int y, .long z] (mW b t n kd em br ii oo np ea eb li rn wp wl wf wt wn ct sT sP sa sb rest) (some (.int (pipR n np x y z))) := by
  refine Rd.of (cc := b_MO_pipe) (maxL := 5) (ret := (some .int)) (own := R_MO) (by decide) rfl rfl (Nat.le_of_ble_eq_true rfl) ?_
  intro p e s m args below meth c C0 hr hlk hP ls hl
  have hl : lv_has ls 5 [(0, .ref (b 0)), (1, .int x), (2, .int y), (3, .long z)] := hl
  refine lv_aload_n C0.1 C0.2.1 d_MO_pipe_0 rfl (lv_at hl 0 rfl) ?_
  refine lv_iload_n C0.1 C0.2.1 d_MO_pipe_1 rfl (lv_at hl 1 rfl) ?_
  refine cR (As := [.int x]) (rest := []) C0 (c_MO_isThing x hn) (q_MO_74 C0.2.2.2.2.1 rfl rfl ⟨Nat.le_of_ble_eq_true rfl, Nat.le_of_ble_eq_true rfl⟩) (ci := 5) (q0 := 0) rfl rfl rfl hP hl.1 rfl rfl (Nat.le_of_ble_eq_true rfl) d_MO_pipe_2 ⟨Nat.zero_le _, Nat.zero_le _⟩ ?_
  refine W.eq (g2 := F0 m 5 ls [.int (bI (hasB n x))]) rfl ?_
  refine lv_if_eq (tgt := 16) C0.1 C0.2.1 d_MO_pipe_5 (by decide) (fun c_5 => ?_) (fun c_5 => ?_)
  · refine lv_bipush (v := -2) C0.1 C0.2.1 d_MO_pipe_16 (by decide) ?_
    exact eR_i C0 hr hlk (by rw [pipR_w (by rw [bI_0.mp c_5]; rfl)]) d_MO_pipe_18
  · refine lv_aload_n C0.1 C0.2.1 d_MO_pipe_8 rfl (lv_at hl 0 rfl) ?_
    refine lv_iload_n C0.1 C0.2.1 d_MO_pipe_9 rfl (lv_at hl 2 rfl) ?_
    refine cR (As := [.int y]) (rest := []) C0 (c_MO_isThing y hn) (q_MO_74 C0.2.2.2.2.1 rfl rfl ⟨Nat.le_of_ble_eq_true rfl, Nat.le_of_ble_eq_true rfl⟩) (ci := 5) (q0 := 0) rfl rfl rfl hP hl.1 rfl rfl (Nat.le_of_ble_eq_true rfl) d_MO_pipe_10 ⟨Nat.zero_le _, Nat.zero_le _⟩ ?_
    refine W.eq (g2 := F0 m 13 ls [.int (bI (hasB n y))]) rfl ?_
    refine lv_if_ne (tgt := 19) C0.1 C0.2.1 d_MO_pipe_13 (by decide) (fun c_13 => ?_) (fun c_13 => ?_)
    · refine lv_iload_n C0.1 C0.2.1 d_MO_pipe_19 rfl (lv_at hl 1 rfl) ?_
      refine lv_iload_n C0.1 C0.2.1 d_MO_pipe_20 rfl (lv_at hl 2 rfl) ?_
      refine lv_icmp_eq (tgt := 38) C0.1 C0.2.1 d_MO_pipe_21 (by decide) (fun c_21 => ?_) (fun c_21 => ?_)
      · refine lv_iconst (v := -1) C0.1 C0.2.1 d_MO_pipe_38 (by decide) ?_
        exact eR_i C0 hr hlk (by rw [pipR_n (bI_n0.mp c_5) (bI_n0.mp c_13) (Or.inr (Or.inr c_21))]) d_MO_pipe_39
      · refine lv_lload_n C0.1 C0.2.1 d_MO_pipe_24 rfl (lv_at hl 3 rfl) ?_
        refine lv_lconst (v := lN 1) C0.1 C0.2.1 d_MO_pipe_25 rfl ?_
        refine W.lcmp C0.1 C0.2.1 d_MO_pipe_26 ?_
        refine lv_if_lt (tgt := 38) C0.1 C0.2.1 d_MO_pipe_27 (by decide) (fun c_27 => ?_) (fun c_27 => ?_)
        · refine lv_iconst (v := -1) C0.1 C0.2.1 d_MO_pipe_38 (by decide) ?_
          exact eR_i C0 hr hlk (by rw [pipR_n (bI_n0.mp c_5) (bI_n0.mp c_13) (Or.inl ((lg_cmp_lt _ _).mp c_27))]) d_MO_pipe_39
        · refine lv_lload_n C0.1 C0.2.1 d_MO_pipe_30 rfl (lv_at hl 3 rfl) ?_
          refine lv_ldc2 C0.1 C0.2.1 C0.2.2.2.1 (C0.2.2.2.2.1 _ k_MO_78) d_MO_pipe_31 ?_
          refine tl (show (1000000000 : Int64) = lN 1000000000 from rfl) ?_
          refine W.lcmp C0.1 C0.2.1 d_MO_pipe_34 ?_
          refine lv_if_le (tgt := 40) C0.1 C0.2.1 d_MO_pipe_35 (by decide) (fun c_35 => ?_) (fun c_35 => ?_)
          · refine lv_aload_n C0.1 C0.2.1 d_MO_pipe_40 rfl (lv_at hl 0 rfl) ?_
            refine gf_MO_80 C0 hP 0 rfl rfl d_MO_pipe_41 ?_
            refine lv_bipush (v := nI 96) C0.1 C0.2.1 d_MO_pipe_44 (by decide) ?_
            refine lv_icmp_ne (tgt := 52) C0.1 C0.2.1 d_MO_pipe_46 (by decide) (fun c_46 => ?_) (fun c_46 => ?_)
            · exact absurd (pipR_0 (bI_n0.mp c_5) (bI_n0.mp c_13) (fun q => by rcases q with q | q | q; exact c_27 ((lg_cmp_lt _ _).mpr q); exact absurd ((lg_cmp_le _ _).mp c_35) (Int64.not_le.mpr q); exact c_21 q) (fun q => c_46 (by rw [q]))) hno
            · refine lv_bipush (v := -5) C0.1 C0.2.1 d_MO_pipe_49 (by decide) ?_
              exact eR_i C0 hr hlk (by rw [pipR_f (bI_n0.mp c_5) (bI_n0.mp c_13) (fun q => by rcases q with q | q | q; exact c_27 ((lg_cmp_lt _ _).mpr q); exact absurd ((lg_cmp_le _ _).mp c_35) (Int64.not_le.mpr q); exact c_21 q) ((nI_eq (by omega) (by decide)).mp c_46)]) d_MO_pipe_51
          · refine lv_iconst (v := -1) C0.1 C0.2.1 d_MO_pipe_38 (by decide) ?_
            exact eR_i C0 hr hlk (by rw [pipR_n (bI_n0.mp c_5) (bI_n0.mp c_13) (Or.inr (Or.inl (Int64.not_le.mp (fun q => c_35 ((lg_cmp_le _ _).mpr q)))))]) d_MO_pipe_39
    · refine lv_bipush (v := -2) C0.1 C0.2.1 d_MO_pipe_16 (by decide) ?_
      exact eR_i C0 hr hlk (by rw [pipR_w (by rw [bI_0.mp c_13, Bool.and_false])]) d_MO_pipe_18
set_option maxHeartbeats 4000000 in
set_option maxRecDepth 100000 in
theorem c_MO_pipe (i j k : Nat) (hi : i < n) (hj : j < n) (hij : i ≠ j) (hk1 : 1 ≤ k) (hk2 : k ≤ 1000000000) (hn : n ≤ 48) (hnp : np < 96) : Mt l y_MO_pipe w_MO_pipe ({ frames := 1, cells := 0, slots := 0, locals := 21 }) g classes (tyL t) [.ref (b 0), .int (nI i), .int (nI j), .long (lN k)] (mW b t n kd em br ii oo np ea eb li rn wp wl wf wt wn ct sT sP sa sb rest) (S := Unit) (fun v _ => v = some (.int (nI np))) (fun _ => (mW b t n kd em br ii oo (np + 1) (va_up ea np i) (va_up eb np j) (va_up li np k) rn wp wl wf wt wn ct sT sP sa sb rest)) 0 0 := by
  refine Mt.of (cc := b_MO_pipe) (maxL := 5) (ret := (some .int)) (own := R_MO) (by decide) rfl rfl (Nat.le_of_ble_eq_true rfl) ?_
  intro p e s m args below meth c C0 hr hlk hin A hA hB ls hl
  have hl : lv_has ls 5 [(0, .ref (b 0)), (1, .int (nI i)), (2, .int (nI j)), (3, .long (lN k))] := hl
  refine lv_aload_n C0.1 C0.2.1 d_MO_pipe_0 rfl (lv_at hl 0 rfl) ?_
  refine lv_iload_n C0.1 C0.2.1 d_MO_pipe_1 rfl (lv_at hl 1 rfl) ?_
  refine cR (As := [.int (nI i)]) (rest := []) C0 (c_MO_isThing (nI i) hn) (q_MO_74 C0.2.2.2.2.1 rfl rfl ⟨Nat.le_of_ble_eq_true rfl, Nat.le_of_ble_eq_true rfl⟩) (ci := 5) (q0 := 0) rfl rfl rfl hB.1 hl.1 rfl rfl (Nat.le_of_ble_eq_true rfl) d_MO_pipe_2 ⟨Nat.zero_le _, Nat.zero_le _⟩ ?_
  refine W.eq (g2 := F0 m 5 ls [.int (bI (hasB n (nI i)))]) rfl ?_
  refine lv_if_eq (tgt := 16) C0.1 C0.2.1 d_MO_pipe_5 (by decide) (fun c_5 => ?_) (fun c_5 => ?_)
  · exact absurd (bI_0.mp c_5) (by rw [hasB_nI (by omega), decide_eq_true hi]; decide)
  · refine lv_aload_n C0.1 C0.2.1 d_MO_pipe_8 rfl (lv_at hl 0 rfl) ?_
    refine lv_iload_n C0.1 C0.2.1 d_MO_pipe_9 rfl (lv_at hl 2 rfl) ?_
    refine cR (As := [.int (nI j)]) (rest := []) C0 (c_MO_isThing (nI j) hn) (q_MO_74 C0.2.2.2.2.1 rfl rfl ⟨Nat.le_of_ble_eq_true rfl, Nat.le_of_ble_eq_true rfl⟩) (ci := 5) (q0 := 0) rfl rfl rfl hB.1 hl.1 rfl rfl (Nat.le_of_ble_eq_true rfl) d_MO_pipe_10 ⟨Nat.zero_le _, Nat.zero_le _⟩ ?_
    refine W.eq (g2 := F0 m 13 ls [.int (bI (hasB n (nI j)))]) rfl ?_
    refine lv_if_ne (tgt := 19) C0.1 C0.2.1 d_MO_pipe_13 (by decide) (fun c_13 => ?_) (fun c_13 => ?_)
    · refine lv_iload_n C0.1 C0.2.1 d_MO_pipe_19 rfl (lv_at hl 1 rfl) ?_
      refine lv_iload_n C0.1 C0.2.1 d_MO_pipe_20 rfl (lv_at hl 2 rfl) ?_
      refine lv_icmp_eq (tgt := 38) C0.1 C0.2.1 d_MO_pipe_21 (by decide) (fun c_21 => ?_) (fun c_21 => ?_)
      · exact absurd ((nI_eq (by omega) (by omega)).mp c_21) hij
      · refine lv_lload_n C0.1 C0.2.1 d_MO_pipe_24 rfl (lv_at hl 3 rfl) ?_
        refine lv_lconst (v := lN 1) C0.1 C0.2.1 d_MO_pipe_25 rfl ?_
        refine W.lcmp C0.1 C0.2.1 d_MO_pipe_26 ?_
        refine lv_if_lt (tgt := 38) C0.1 C0.2.1 d_MO_pipe_27 (by decide) (fun c_27 => ?_) (fun c_27 => ?_)
        · exact absurd ((pk_lLT (by omega) (by decide)).mp ((lg_cmp_lt _ _).mp c_27)) (by omega)
        · refine lv_lload_n C0.1 C0.2.1 d_MO_pipe_30 rfl (lv_at hl 3 rfl) ?_
          refine lv_ldc2 C0.1 C0.2.1 C0.2.2.2.1 (C0.2.2.2.2.1 _ k_MO_78) d_MO_pipe_31 ?_
          refine tl (show (1000000000 : Int64) = lN 1000000000 from rfl) ?_
          refine W.lcmp C0.1 C0.2.1 d_MO_pipe_34 ?_
          refine lv_if_le (tgt := 40) C0.1 C0.2.1 d_MO_pipe_35 (by decide) (fun c_35 => ?_) (fun c_35 => ?_)
          · refine lv_aload_n C0.1 C0.2.1 d_MO_pipe_40 rfl (lv_at hl 0 rfl) ?_
            refine gf_MO_80 C0 hB.1 0 rfl rfl d_MO_pipe_41 ?_
            refine lv_bipush (v := nI 96) C0.1 C0.2.1 d_MO_pipe_44 (by decide) ?_
            refine lv_icmp_ne (tgt := 52) C0.1 C0.2.1 d_MO_pipe_46 (by decide) (fun c_46 => ?_) (fun c_46 => ?_)
            · refine lv_aload_n C0.1 C0.2.1 d_MO_pipe_52 rfl (lv_at hl 0 rfl) ?_
              refine gf_MO_26 C0 hB.1 0 rfl rfl d_MO_pipe_53 ?_
              refine lv_aload_n C0.1 C0.2.1 d_MO_pipe_56 rfl (lv_at hl 0 rfl) ?_
              refine gf_MO_80 C0 hB.1 0 rfl rfl d_MO_pipe_57 ?_
              refine lv_iload_n C0.1 C0.2.1 d_MO_pipe_60 rfl (lv_at hl 1 rfl) ?_
              refine ast_i (w' := (mW b t n kd em br ii oo np (va_up ea np i) eb li rn wp wl wf wt wn ct sT sP sa sb rest)) C0 hB 6 0 rfl rfl (by omega) (by decide) up_nI rfl d_MO_pipe_61 (fun H locs hB => ?_)
              refine lv_aload_n C0.1 C0.2.1 d_MO_pipe_62 rfl (lv_at hl 0 rfl) ?_
              refine gf_MO_29 C0 hB.1 0 rfl rfl d_MO_pipe_63 ?_
              refine lv_aload_n C0.1 C0.2.1 d_MO_pipe_66 rfl (lv_at hl 0 rfl) ?_
              refine gf_MO_80 C0 hB.1 0 rfl rfl d_MO_pipe_67 ?_
              refine lv_iload_n C0.1 C0.2.1 d_MO_pipe_70 rfl (lv_at hl 2 rfl) ?_
              refine ast_i (w' := (mW b t n kd em br ii oo np (va_up ea np i) (va_up eb np j) li rn wp wl wf wt wn ct sT sP sa sb rest)) C0 hB 7 0 rfl rfl (by omega) (by decide) up_nI rfl d_MO_pipe_71 (fun H locs hB => ?_)
              refine lv_aload_n C0.1 C0.2.1 d_MO_pipe_72 rfl (lv_at hl 0 rfl) ?_
              refine gf_MO_32 C0 hB.1 0 rfl rfl d_MO_pipe_73 ?_
              refine lv_aload_n C0.1 C0.2.1 d_MO_pipe_76 rfl (lv_at hl 0 rfl) ?_
              refine gf_MO_80 C0 hB.1 0 rfl rfl d_MO_pipe_77 ?_
              refine lv_lload_n C0.1 C0.2.1 d_MO_pipe_80 rfl (lv_at hl 3 rfl) ?_
              refine ast_l (w' := (mW b t n kd em br ii oo np (va_up ea np i) (va_up eb np j) (va_up li np k) rn wp wl wf wt wn ct sT sP sa sb rest)) C0 hB 8 2 rfl rfl (by omega) (by decide) up_lN rfl d_MO_pipe_81 (fun H locs hB => ?_)
              refine lv_aload_n C0.1 C0.2.1 d_MO_pipe_82 rfl (lv_at hl 0 rfl) ?_
              refine lv_dup C0.1 C0.2.1 d_MO_pipe_83 rfl ?_
              refine gf_MO_80 C0 hB.1 0 rfl rfl d_MO_pipe_84 ?_
              refine lv_iconst (v := nI 1) C0.1 C0.2.1 d_MO_pipe_87 (by decide) ?_
              refine lv_iadd C0.1 C0.2.1 d_MO_pipe_88 ?_
              refine ti (show (nI np) + (nI 1) = nI (np + 1) from nI_add _ _) ?_
              refine pf_MO_80 (w' := (mW b t n kd em br ii oo (np + 1) (va_up ea np i) (va_up eb np j) (va_up li np k) rn wp wl wf wt wn ct sT sP sa sb rest)) C0 hB 0 rfl (Nat.le_of_ble_eq_true rfl) rfl rfl rfl d_MO_pipe_89 (fun H locs hB => ?_)
              refine lv_aload_n C0.1 C0.2.1 d_MO_pipe_92 rfl (lv_at hl 0 rfl) ?_
              refine gf_MO_80 C0 hB.1 0 rfl rfl d_MO_pipe_93 ?_
              refine lv_iconst (v := nI 1) C0.1 C0.2.1 d_MO_pipe_96 (by decide) ?_
              refine lv_isub C0.1 C0.2.1 d_MO_pipe_97 ?_
              refine ti (show (nI (np + 1)) - (nI 1) = nI np from (pk_sub (by omega) : nI (np + 1) - nI 1 = nI (np + 1 - 1))) ?_
              exact eM_i C0 hr hlk () hB (rfl) (Nat.le_refl _) (Nat.le_refl _) d_MO_pipe_98
            · exact absurd ((nI_eq (by omega) (by decide)).mp c_46) (by omega)
          · exact absurd ((lg_cmp_le _ _).mpr ((pk_lLE (by omega) (by decide)).mpr hk2)) c_35
    · exact absurd (bI_0.mp c_13) (by rw [hasB_nI (by omega), decide_eq_true hj]; decide)
theorem up_id {f : Nat → Bool} {k : Nat} {v : Bool} (h : f k = v) : va_up f k v = f := by
  funext j
  by_cases e : j = k
  · rw [e, va_up_self, h]
  · rw [va_up_ne _ _ e]
set_option maxHeartbeats 4000000 in
set_option maxRecDepth 100000 in
theorem c_MO_run_no (x : Int32) (b0 : Bool) (hn : np ≤ 96) (hno : hasB np x = false) : Rd l y_MO_run w_MO_run ({ frames := 0, cells := 0, slots := 0, locals := 0 }) g classes (tyL t) [.ref (b 0), .int x, .int (bI b0)] (mW b t n kd em br ii oo np ea eb li rn wp wl wf wt wn ct sT sP sa sb rest) (some (.int (bI false))) := by
  refine Rd.of (cc := b_MO_run) (maxL := 3) (ret := (some .boolean)) (own := R_MO) (by decide) rfl rfl (Nat.le_of_ble_eq_true rfl) ?_
  intro p e s m args below meth c C0 hr hlk hP ls hl
  have hl : lv_has ls 3 [(0, .ref (b 0)), (1, .int x), (2, .int (bI b0))] := hl
  refine lv_iload_n C0.1 C0.2.1 d_MO_run_0 rfl (lv_at hl 1 rfl) ?_
  refine lv_if_lt (tgt := 22) C0.1 C0.2.1 d_MO_run_1 (by decide) (fun c_1 => ?_) (fun c_1 => ?_)
  · refine lv_iconst (v := nI 0) C0.1 C0.2.1 d_MO_run_22 (by decide) ?_
    exact eR_z C0 hr hlk (b := false) (rfl) rfl d_MO_run_23
  · refine lv_iload_n C0.1 C0.2.1 d_MO_run_4 rfl (lv_at hl 1 rfl) ?_
    refine lv_aload_n C0.1 C0.2.1 d_MO_run_5 rfl (lv_at hl 0 rfl) ?_
    refine gf_MO_80 C0 hP 0 rfl rfl d_MO_run_6 ?_
    refine lv_icmp_ge (tgt := 22) C0.1 C0.2.1 d_MO_run_9 (by decide) (fun c_9 => ?_) (fun c_9 => ?_)
    · refine lv_iconst (v := nI 0) C0.1 C0.2.1 d_MO_run_22 (by decide) ?_
      exact eR_z C0 hr hlk (b := false) (rfl) rfl d_MO_run_23
    · exact absurd (hasB_t (by omega) c_1 c_9) (by rw [hno]; decide)
set_option maxHeartbeats 4000000 in
set_option maxRecDepth 100000 in
theorem c_MO_run (p0 : Nat) (b0 : Bool) (hn : np ≤ 96) (hp0 : p0 < np) : Mt l y_MO_run w_MO_run ({ frames := 0, cells := 0, slots := 0, locals := 0 }) g classes (tyL t) [.ref (b 0), .int (nI p0), .int (bI b0)] (mW b t n kd em br ii oo np ea eb li rn wp wl wf wt wn ct sT sP sa sb rest) (S := Unit) (fun v _ => v = some (.int (bI (decide (¬ rn p0 = b0))))) (fun _ => (mW b t n kd em br ii oo np ea eb li (va_up rn p0 b0) wp wl wf wt wn ct sT sP sa sb rest)) 0 0 := by
  refine Mt.of (cc := b_MO_run) (maxL := 3) (ret := (some .boolean)) (own := R_MO) (by decide) rfl rfl (Nat.le_of_ble_eq_true rfl) ?_
  intro p e s m args below meth c C0 hr hlk hin A hA hB ls hl
  have hl : lv_has ls 3 [(0, .ref (b 0)), (1, .int (nI p0)), (2, .int (bI b0))] := hl
  refine lv_iload_n C0.1 C0.2.1 d_MO_run_0 rfl (lv_at hl 1 rfl) ?_
  refine lv_if_lt (tgt := 22) C0.1 C0.2.1 d_MO_run_1 (by decide) (fun c_1 => ?_) (fun c_1 => ?_)
  · exact absurd c_1 (nI_pos (by omega))
  · refine lv_iload_n C0.1 C0.2.1 d_MO_run_4 rfl (lv_at hl 1 rfl) ?_
    refine lv_aload_n C0.1 C0.2.1 d_MO_run_5 rfl (lv_at hl 0 rfl) ?_
    refine gf_MO_80 C0 hB.1 0 rfl rfl d_MO_run_6 ?_
    refine lv_icmp_ge (tgt := 22) C0.1 C0.2.1 d_MO_run_9 (by decide) (fun c_9 => ?_) (fun c_9 => ?_)
    · exact absurd ((nI_leI (by omega) (by omega)).mp c_9) (by omega)
    · refine lv_aload_n C0.1 C0.2.1 d_MO_run_12 rfl (lv_at hl 0 rfl) ?_
      refine gf_MO_36 C0 hB.1 0 rfl rfl d_MO_run_13 ?_
      refine lv_iload_n C0.1 C0.2.1 d_MO_run_16 rfl (lv_at hl 1 rfl) ?_
      refine ald_z C0 hB.1 9 1 rfl rfl (by omega) (by decide) d_MO_run_17 ?_
      refine lv_iload_n C0.1 C0.2.1 d_MO_run_18 rfl (lv_at hl 2 rfl) ?_
      refine lv_icmp_ne (tgt := 24) C0.1 C0.2.1 d_MO_run_19 (by decide) (fun c_19 => ?_) (fun c_19 => ?_)
      · have e0 : ¬ rn p0 = b0 := fun q => c_19 (by rw [q])
        refine lv_aload_n C0.1 C0.2.1 d_MO_run_24 rfl (lv_at hl 0 rfl) ?_
        refine gf_MO_36 C0 hB.1 0 rfl rfl d_MO_run_25 ?_
        refine lv_iload_n C0.1 C0.2.1 d_MO_run_28 rfl (lv_at hl 1 rfl) ?_
        refine lv_iload_n C0.1 C0.2.1 d_MO_run_29 rfl (lv_at hl 2 rfl) ?_
        refine ast_z (w' := (mW b t n kd em br ii oo np ea eb li (va_up rn p0 b0) wp wl wf wt wn ct sT sP sa sb rest)) C0 hB 9 1 rfl rfl (by omega) (by decide) up_bI rfl d_MO_run_30 (fun H locs hB => ?_)
        refine lv_iconst (v := nI 1) C0.1 C0.2.1 d_MO_run_31 (by decide) ?_
        exact eM_z C0 hr hlk (b := (decide (¬ rn p0 = b0))) () (by rw [decide_eq_true e0]; rfl) hB rfl (Nat.le_refl _) (Nat.le_refl _) d_MO_run_32
      · have e0 : rn p0 = b0 := bI_inj.mp c_19
        refine lv_iconst (v := nI 0) C0.1 C0.2.1 d_MO_run_22 (by decide) ?_
        exact eM_z C0 hr hlk (b := (decide (¬ rn p0 = b0))) () (by rw [decide_eq_false (fun q => q e0)]; rfl) (show wB g classes A s.heap (mW b t n kd em br ii oo np ea eb li (va_up rn p0 b0) wp wl wf wt wn ct sT sP sa sb rest) _ _ by rw [show va_up rn p0 b0 = rn from up_id e0]; exact hB) rfl (Nat.le_refl _) (Nat.le_refl _) d_MO_run_23
set_option maxHeartbeats 4000000 in
set_option maxRecDepth 100000 in
theorem c_MO_bar_no (x : Int32) (b0 : Bool) (hn : n ≤ 48) (hno : hasB n x = false) : Rd l y_MO_bar w_MO_bar ({ frames := 1, cells := 0, slots := 0, locals := 21 }) g classes (tyL t) [.ref (b 0), .int x, .int (bI b0)] (mW b t n kd em br ii oo np ea eb li rn wp wl wf wt wn ct sT sP sa sb rest) (some (.int (bI false))) := by
  refine Rd.of (cc := b_MO_bar) (maxL := 3) (ret := (some .boolean)) (own := R_MO) (by decide) rfl rfl (Nat.le_of_ble_eq_true rfl) ?_
  intro p e s m args below meth c C0 hr hlk hP ls hl
  have hl : lv_has ls 3 [(0, .ref (b 0)), (1, .int x), (2, .int (bI b0))] := hl
  refine lv_aload_n C0.1 C0.2.1 d_MO_bar_0 rfl (lv_at hl 0 rfl) ?_
  refine lv_iload_n C0.1 C0.2.1 d_MO_bar_1 rfl (lv_at hl 1 rfl) ?_
  refine cR (As := [.int x]) (rest := []) C0 (c_MO_isThing x hn) (q_MO_74 C0.2.2.2.2.1 rfl rfl ⟨Nat.le_of_ble_eq_true rfl, Nat.le_of_ble_eq_true rfl⟩) (ci := 5) (q0 := 0) rfl rfl rfl hP hl.1 rfl rfl (Nat.le_of_ble_eq_true rfl) d_MO_bar_2 ⟨Nat.zero_le _, Nat.zero_le _⟩ ?_
  refine W.eq (g2 := F0 m 5 ls [.int (bI (hasB n x))]) rfl ?_
  refine lv_if_eq (tgt := 18) C0.1 C0.2.1 d_MO_bar_5 (by decide) (fun c_5 => ?_) (fun c_5 => ?_)
  · refine lv_iconst (v := nI 0) C0.1 C0.2.1 d_MO_bar_18 (by decide) ?_
    exact eR_z C0 hr hlk (b := false) (rfl) rfl d_MO_bar_19
  · exact absurd (by rw [hno]; rfl) c_5
set_option maxHeartbeats 4000000 in
set_option maxRecDepth 100000 in
theorem c_MO_bar (p0 : Nat) (b0 : Bool) (hn : n ≤ 48) (hp0 : p0 < n) : Mt l y_MO_bar w_MO_bar ({ frames := 1, cells := 0, slots := 0, locals := 21 }) g classes (tyL t) [.ref (b 0), .int (nI p0), .int (bI b0)] (mW b t n kd em br ii oo np ea eb li rn wp wl wf wt wn ct sT sP sa sb rest) (S := Unit) (fun v _ => v = some (.int (bI (decide (¬ br p0 = b0))))) (fun _ => (mW b t n kd em (va_up br p0 b0) ii oo np ea eb li rn wp wl wf wt wn ct sT sP sa sb rest)) 0 0 := by
  refine Mt.of (cc := b_MO_bar) (maxL := 3) (ret := (some .boolean)) (own := R_MO) (by decide) rfl rfl (Nat.le_of_ble_eq_true rfl) ?_
  intro p e s m args below meth c C0 hr hlk hin A hA hB ls hl
  have hl : lv_has ls 3 [(0, .ref (b 0)), (1, .int (nI p0)), (2, .int (bI b0))] := hl
  refine lv_aload_n C0.1 C0.2.1 d_MO_bar_0 rfl (lv_at hl 0 rfl) ?_
  refine lv_iload_n C0.1 C0.2.1 d_MO_bar_1 rfl (lv_at hl 1 rfl) ?_
  refine cR (As := [.int (nI p0)]) (rest := []) C0 (c_MO_isThing (nI p0) hn) (q_MO_74 C0.2.2.2.2.1 rfl rfl ⟨Nat.le_of_ble_eq_true rfl, Nat.le_of_ble_eq_true rfl⟩) (ci := 5) (q0 := 0) rfl rfl rfl hB.1 hl.1 rfl rfl (Nat.le_of_ble_eq_true rfl) d_MO_bar_2 ⟨Nat.zero_le _, Nat.zero_le _⟩ ?_
  refine W.eq (g2 := F0 m 5 ls [.int (bI (hasB n (nI p0)))]) rfl ?_
  refine lv_if_eq (tgt := 18) C0.1 C0.2.1 d_MO_bar_5 (by decide) (fun c_5 => ?_) (fun c_5 => ?_)
  · exact absurd (bI_0.mp c_5) (by rw [hasB_nI (by omega), decide_eq_true hp0]; decide)
  · refine lv_aload_n C0.1 C0.2.1 d_MO_bar_8 rfl (lv_at hl 0 rfl) ?_
    refine gf_MO_17 C0 hB.1 0 rfl rfl d_MO_bar_9 ?_
    refine lv_iload_n C0.1 C0.2.1 d_MO_bar_12 rfl (lv_at hl 1 rfl) ?_
    refine ald_z C0 hB.1 3 1 rfl rfl (by omega) (by decide) d_MO_bar_13 ?_
    refine lv_iload_n C0.1 C0.2.1 d_MO_bar_14 rfl (lv_at hl 2 rfl) ?_
    refine lv_icmp_ne (tgt := 20) C0.1 C0.2.1 d_MO_bar_15 (by decide) (fun c_15 => ?_) (fun c_15 => ?_)
    · have e0 : ¬ br p0 = b0 := fun q => c_15 (by rw [q])
      refine lv_aload_n C0.1 C0.2.1 d_MO_bar_20 rfl (lv_at hl 0 rfl) ?_
      refine gf_MO_17 C0 hB.1 0 rfl rfl d_MO_bar_21 ?_
      refine lv_iload_n C0.1 C0.2.1 d_MO_bar_24 rfl (lv_at hl 1 rfl) ?_
      refine lv_iload_n C0.1 C0.2.1 d_MO_bar_25 rfl (lv_at hl 2 rfl) ?_
      refine ast_z (w' := (mW b t n kd em (va_up br p0 b0) ii oo np ea eb li rn wp wl wf wt wn ct sT sP sa sb rest)) C0 hB 3 1 rfl rfl (by omega) (by decide) up_bI rfl d_MO_bar_26 (fun H locs hB => ?_)
      refine lv_iconst (v := nI 1) C0.1 C0.2.1 d_MO_bar_27 (by decide) ?_
      exact eM_z C0 hr hlk (b := (decide (¬ br p0 = b0))) () (by rw [decide_eq_true e0]; rfl) hB rfl (Nat.le_refl _) (Nat.le_refl _) d_MO_bar_28
    · have e0 : br p0 = b0 := bI_inj.mp c_15
      refine lv_iconst (v := nI 0) C0.1 C0.2.1 d_MO_bar_18 (by decide) ?_
      exact eM_z C0 hr hlk (b := (decide (¬ br p0 = b0))) () (by rw [decide_eq_false (fun q => q e0)]; rfl) (show wB g classes A s.heap (mW b t n kd em (va_up br p0 b0) ii oo np ea eb li rn wp wl wf wt wn ct sT sP sa sb rest) _ _ by rw [show va_up br p0 b0 = br from up_id e0]; exact hB) rfl (Nat.le_refl _) (Nat.le_refl _) d_MO_bar_19
set_option maxHeartbeats 4000000 in
set_option maxRecDepth 100000 in
theorem c_MO_joins (p0 : Nat) (x y : Int32) (hp0 : p0 < 96) : Rd l y_MO_joins w_MO_joins ({ frames := 0, cells := 0, slots := 0, locals := 0 }) g classes (tyL t) [.ref (b 0), .int (nI p0), .int x, .int y] (mW b t n kd em br ii oo np ea eb li rn wp wl wf wt wn ct sT sP sa sb rest) (some (.int (bI (joinB ea eb x y p0)))) := by
  refine Rd.of (cc := b_MO_joins) (maxL := 4) (ret := (some .boolean)) (own := R_MO) (by decide) rfl rfl (Nat.le_of_ble_eq_true rfl) ?_
  intro p e s m args below meth c C0 hr hlk hP ls hl
  have hl : lv_has ls 4 [(0, .ref (b 0)), (1, .int (nI p0)), (2, .int x), (3, .int y)] := hl
  refine lv_aload_n C0.1 C0.2.1 d_MO_joins_0 rfl (lv_at hl 0 rfl) ?_
  refine gf_MO_26 C0 hP 0 rfl rfl d_MO_joins_1 ?_
  refine lv_iload_n C0.1 C0.2.1 d_MO_joins_4 rfl (lv_at hl 1 rfl) ?_
  refine ald_i C0 hP 6 0 rfl rfl (by omega) (by decide) d_MO_joins_5 ?_
  refine lv_iload_n C0.1 C0.2.1 d_MO_joins_6 rfl (lv_at hl 2 rfl) ?_
  refine lv_icmp_ne (tgt := 20) C0.1 C0.2.1 d_MO_joins_7 (by decide) (fun c_7 => ?_) (fun c_7 => ?_)
  · refine lv_aload_n C0.1 C0.2.1 d_MO_joins_20 rfl (lv_at hl 0 rfl) ?_
    refine gf_MO_26 C0 hP 0 rfl rfl d_MO_joins_21 ?_
    refine lv_iload_n C0.1 C0.2.1 d_MO_joins_24 rfl (lv_at hl 1 rfl) ?_
    refine ald_i C0 hP 6 0 rfl rfl (by omega) (by decide) d_MO_joins_25 ?_
    refine lv_iload_n C0.1 C0.2.1 d_MO_joins_26 rfl (lv_at hl 3 rfl) ?_
    refine lv_icmp_ne (tgt := 44) C0.1 C0.2.1 d_MO_joins_27 (by decide) (fun c_27 => ?_) (fun c_27 => ?_)
    · refine lv_iconst (v := nI 0) C0.1 C0.2.1 d_MO_joins_44 (by decide) ?_
      exact eR_z C0 hr hlk (b := joinB ea eb x y p0) (by unfold joinB; rw [show (decide (nI (ea p0) = x) && decide (nI (eb p0) = y)) = false by rw [decide_eq_false c_7]; rfl, decide_eq_false c_27]; rfl) rfl d_MO_joins_45
    · refine lv_aload_n C0.1 C0.2.1 d_MO_joins_30 rfl (lv_at hl 0 rfl) ?_
      refine gf_MO_29 C0 hP 0 rfl rfl d_MO_joins_31 ?_
      refine lv_iload_n C0.1 C0.2.1 d_MO_joins_34 rfl (lv_at hl 1 rfl) ?_
      refine ald_i C0 hP 7 0 rfl rfl (by omega) (by decide) d_MO_joins_35 ?_
      refine lv_iload_n C0.1 C0.2.1 d_MO_joins_36 rfl (lv_at hl 2 rfl) ?_
      refine lv_icmp_ne (tgt := 44) C0.1 C0.2.1 d_MO_joins_37 (by decide) (fun c_37 => ?_) (fun c_37 => ?_)
      · refine lv_iconst (v := nI 0) C0.1 C0.2.1 d_MO_joins_44 (by decide) ?_
        exact eR_z C0 hr hlk (b := joinB ea eb x y p0) (by unfold joinB; rw [show (decide (nI (ea p0) = x) && decide (nI (eb p0) = y)) = false by rw [decide_eq_false c_7]; rfl, decide_eq_false c_37, Bool.and_false]; rfl) rfl d_MO_joins_45
      · refine lv_iconst (v := nI 1) C0.1 C0.2.1 d_MO_joins_40 (by decide) ?_
        refine lv_goto (tgt := 45) C0.1 C0.2.1 d_MO_joins_41 (by decide) ?_
        exact eR_z C0 hr hlk (b := joinB ea eb x y p0) (by unfold joinB; rw [decide_eq_true c_27, decide_eq_true c_37, Bool.and_self, Bool.or_true]; rfl) rfl d_MO_joins_45
  · refine lv_aload_n C0.1 C0.2.1 d_MO_joins_10 rfl (lv_at hl 0 rfl) ?_
    refine gf_MO_29 C0 hP 0 rfl rfl d_MO_joins_11 ?_
    refine lv_iload_n C0.1 C0.2.1 d_MO_joins_14 rfl (lv_at hl 1 rfl) ?_
    refine ald_i C0 hP 7 0 rfl rfl (by omega) (by decide) d_MO_joins_15 ?_
    refine lv_iload_n C0.1 C0.2.1 d_MO_joins_16 rfl (lv_at hl 3 rfl) ?_
    refine lv_icmp_eq (tgt := 40) C0.1 C0.2.1 d_MO_joins_17 (by decide) (fun c_17 => ?_) (fun c_17 => ?_)
    · refine lv_iconst (v := nI 1) C0.1 C0.2.1 d_MO_joins_40 (by decide) ?_
      refine lv_goto (tgt := 45) C0.1 C0.2.1 d_MO_joins_41 (by decide) ?_
      exact eR_z C0 hr hlk (b := joinB ea eb x y p0) (by unfold joinB; rw [decide_eq_true c_7, decide_eq_true c_17]; rfl) rfl d_MO_joins_45
    · refine lv_aload_n C0.1 C0.2.1 d_MO_joins_20 rfl (lv_at hl 0 rfl) ?_
      refine gf_MO_26 C0 hP 0 rfl rfl d_MO_joins_21 ?_
      refine lv_iload_n C0.1 C0.2.1 d_MO_joins_24 rfl (lv_at hl 1 rfl) ?_
      refine ald_i C0 hP 6 0 rfl rfl (by omega) (by decide) d_MO_joins_25 ?_
      refine lv_iload_n C0.1 C0.2.1 d_MO_joins_26 rfl (lv_at hl 3 rfl) ?_
      refine lv_icmp_ne (tgt := 44) C0.1 C0.2.1 d_MO_joins_27 (by decide) (fun c_27 => ?_) (fun c_27 => ?_)
      · refine lv_iconst (v := nI 0) C0.1 C0.2.1 d_MO_joins_44 (by decide) ?_
        exact eR_z C0 hr hlk (b := joinB ea eb x y p0) (by unfold joinB; rw [show (decide (nI (ea p0) = x) && decide (nI (eb p0) = y)) = false by rw [decide_eq_false c_17, Bool.and_false], decide_eq_false c_27]; rfl) rfl d_MO_joins_45
      · refine lv_aload_n C0.1 C0.2.1 d_MO_joins_30 rfl (lv_at hl 0 rfl) ?_
        refine gf_MO_29 C0 hP 0 rfl rfl d_MO_joins_31 ?_
        refine lv_iload_n C0.1 C0.2.1 d_MO_joins_34 rfl (lv_at hl 1 rfl) ?_
        refine ald_i C0 hP 7 0 rfl rfl (by omega) (by decide) d_MO_joins_35 ?_
        refine lv_iload_n C0.1 C0.2.1 d_MO_joins_36 rfl (lv_at hl 2 rfl) ?_
        refine lv_icmp_ne (tgt := 44) C0.1 C0.2.1 d_MO_joins_37 (by decide) (fun c_37 => ?_) (fun c_37 => ?_)
        · refine lv_iconst (v := nI 0) C0.1 C0.2.1 d_MO_joins_44 (by decide) ?_
          exact eR_z C0 hr hlk (b := joinB ea eb x y p0) (by unfold joinB; rw [show (decide (nI (ea p0) = x) && decide (nI (eb p0) = y)) = false by rw [decide_eq_false c_17, Bool.and_false], decide_eq_false c_37, Bool.and_false]; rfl) rfl d_MO_joins_45
        · refine lv_iconst (v := nI 1) C0.1 C0.2.1 d_MO_joins_40 (by decide) ?_
          refine lv_goto (tgt := 45) C0.1 C0.2.1 d_MO_joins_41 (by decide) ?_
          exact eR_z C0 hr hlk (b := joinB ea eb x y p0) (by unfold joinB; rw [decide_eq_true c_27, decide_eq_true c_37, Bool.and_self, Bool.or_true]; rfl) rfl d_MO_joins_45
set_option maxHeartbeats 4000000 in
set_option maxRecDepth 100000 in
theorem c_MO_areJoined (x y : Int32) (hnp : np ≤ 96) : Rd l y_MO_areJoined w_MO_areJoined ({ frames := 1, cells := 0, slots := 0, locals := 23 }) g classes (tyL t) [.ref (b 0), .int x, .int y] (mW b t n kd em br ii oo np ea eb li rn wp wl wf wt wn ct sT sP sa sb rest) (some (.int (bI (anyN (joinB ea eb x y) np)))) := by
  refine Rd.of (cc := b_MO_areJoined) (maxL := 5) (ret := (some .boolean)) (own := R_MO) (by decide) rfl rfl (Nat.le_of_ble_eq_true rfl) ?_
  intro p e s m args below meth c C0 hr hlk hP ls hl
  have hl : lv_has ls 5 [(0, .ref (b 0)), (1, .int x), (2, .int y)] := hl
  refine lv_iconst (v := bI (anyN (joinB ea eb x y) 0)) C0.1 C0.2.1 d_MO_areJoined_0 rfl ?_
  refine lv_istore_n (lv' := [(3, .int (bI (anyN (joinB ea eb x y) 0))), (0, .ref (b 0)), (1, .int x), (2, .int y)]) C0.1 C0.2.1 d_MO_areJoined_1 rfl hl (by decide) rfl (fun ls hl => ?_)
  refine lv_iconst (v := nI 0) C0.1 C0.2.1 d_MO_areJoined_2 (by decide) ?_
  refine lv_istore (lv' := [(4, .int (nI 0)), (3, .int (bI (anyN (joinB ea eb x y) 0))), (0, .ref (b 0)), (1, .int x), (2, .int y)]) C0.1 C0.2.1 d_MO_areJoined_3 hl (by decide) rfl (fun ls hl => ?_)
  refine wlR (σ := Nat) (head := 5) (fun z_ => np - z_) (fun z_ => z_ ≤ np) (fun z_ => [(0, .ref (b 0)), (1, .int x), (2, .int y), (3, .int (bI (anyN (joinB ea eb x y) z_))), (4, .int (nI z_))]) ?_ 0 (show 0 ≤ np from Nat.zero_le _) (lv_sub hl [2, 3, 4, 1, 0] rfl)
  rintro j hi ih_5 ls hl
  have hi : j ≤ np := hi
  have hl : lv_has ls 5 [(0, .ref (b 0)), (1, .int x), (2, .int y), (3, .int (bI (anyN (joinB ea eb x y) j))), (4, .int (nI j))] := hl
  refine lv_iload C0.1 C0.2.1 d_MO_areJoined_5 (lv_at hl 4 rfl) ?_
  refine lv_aload_n C0.1 C0.2.1 d_MO_areJoined_7 rfl (lv_at hl 0 rfl) ?_
  refine gf_MO_80 C0 hP 0 rfl rfl d_MO_areJoined_8 ?_
  refine lv_icmp_ge (tgt := 31) C0.1 C0.2.1 d_MO_areJoined_11 (by decide) (fun c_11 => ?_) (fun c_11 => ?_)
  · have hj : j = np := by have := (nI_leI (by omega) (by omega)).mp c_11; omega
    refine lv_iload_n C0.1 C0.2.1 d_MO_areJoined_31 rfl (lv_at hl 3 rfl) ?_
    exact eR_z C0 hr hlk (b := anyN (joinB ea eb x y) np) (by rw [hj]) rfl d_MO_areJoined_32
  · have hj : j < np := (nI_nle' (by omega) (by omega)).mp c_11
    refine lv_iload_n C0.1 C0.2.1 d_MO_areJoined_14 rfl (lv_at hl 3 rfl) ?_
    refine lv_aload_n C0.1 C0.2.1 d_MO_areJoined_15 rfl (lv_at hl 0 rfl) ?_
    refine lv_iload C0.1 C0.2.1 d_MO_areJoined_16 (lv_at hl 4 rfl) ?_
    refine lv_iload_n C0.1 C0.2.1 d_MO_areJoined_18 rfl (lv_at hl 1 rfl) ?_
    refine lv_iload_n C0.1 C0.2.1 d_MO_areJoined_19 rfl (lv_at hl 2 rfl) ?_
    refine cR (As := [.int (nI j), .int x, .int y]) (rest := [.int (bI (anyN (joinB ea eb x y) j))]) C0 (c_MO_joins j x y (by omega)) (q_MO_83 C0.2.2.2.2.1 rfl rfl ⟨Nat.le_of_ble_eq_true rfl, Nat.le_of_ble_eq_true rfl⟩) (ci := 5) (q0 := 0) rfl rfl rfl hP hl.1 rfl rfl (Nat.le_of_ble_eq_true rfl) d_MO_areJoined_20 ⟨Nat.zero_le _, Nat.zero_le _⟩ ?_
    refine W.eq (g2 := F0 m 23 ls [.int (bI (joinB ea eb x y j)), .int (bI (anyN (joinB ea eb x y) j))]) rfl ?_
    refine lv_ior C0.1 C0.2.1 d_MO_areJoined_23 ?_
    refine ti (show (bI (anyN (joinB ea eb x y) j)) ||| (bI (joinB ea eb x y j)) = bI (anyN (joinB ea eb x y) (j + 1)) from bI_or) ?_
    refine lv_istore_n (lv' := [(3, .int (bI (anyN (joinB ea eb x y) (j + 1)))), (0, .ref (b 0)), (1, .int x), (2, .int y), (4, .int (nI j))]) C0.1 C0.2.1 d_MO_areJoined_24 rfl hl (by decide) rfl (fun ls hl => ?_)
    refine lv_iinc (v := nI (j + 1)) (lv' := [(4, .int (nI (j + 1))), (3, .int (bI (anyN (joinB ea eb x y) (j + 1)))), (0, .ref (b 0)), (1, .int x), (2, .int y)]) C0.1 C0.2.1 d_MO_areJoined_25 hl (k := 4) rfl (inc1 _) (by decide) rfl (fun ls hl => ?_)
    refine lv_goto (tgt := 5) C0.1 C0.2.1 d_MO_areJoined_28 (by decide) ?_
    exact ih_5 (j + 1) (show (j + 1) ≤ np from by omega) (show np - (j + 1) < np - j from by omega) ls (lv_sub hl [2, 3, 4, 1, 0] rfl)
set_option maxHeartbeats 4000000 in
set_option maxRecDepth 100000 in
theorem c_MO_goes (p0 u v : Nat) (hp0 : p0 < 96) (hu : u < 48) (hv : v < 48) (hk : ∀ j, kd j < 3) : Rd l y_MO_goes w_MO_goes ({ frames := 0, cells := 0, slots := 0, locals := 0 }) g classes (tyL t) [.ref (b 0), .int (nI p0), .int (nI u), .int (nI v)] (mW b t n kd em br ii oo np ea eb li rn wp wl wf wt wn ct sT sP sa sb rest) (some (.int (bI (goB kd ii oo sT sP p0 u v)))) := by
  refine Rd.of (cc := b_MO_goes) (maxL := 4) (ret := (some .boolean)) (own := R_MO) (by decide) rfl rfl (Nat.le_of_ble_eq_true rfl) ?_
  intro p e s m args below meth c C0 hr hlk hP ls hl
  have hl : lv_has ls 4 [(0, .ref (b 0)), (1, .int (nI p0)), (2, .int (nI u)), (3, .int (nI v))] := hl
  refine lv_aload_n C0.1 C0.2.1 d_MO_goes_0 rfl (lv_at hl 0 rfl) ?_
  refine gf_MO_57 C0 hP 0 rfl rfl d_MO_goes_1 ?_
  refine lv_iload_n C0.1 C0.2.1 d_MO_goes_4 rfl (lv_at hl 1 rfl) ?_
  refine ald_z C0 hP 16 1 rfl rfl (by omega) (by decide) d_MO_goes_5 ?_
  refine lv_if_ne (tgt := 71) C0.1 C0.2.1 d_MO_goes_6 (by decide) (fun c_6 => ?_) (fun c_6 => ?_)
  · refine lv_iconst (v := nI 0) C0.1 C0.2.1 d_MO_goes_71 (by decide) ?_
    exact eR_z C0 hr hlk (b := goB kd ii oo sT sP p0 u v) (by rw [go_1 (bI_n0.mp c_6)]; rfl) rfl d_MO_goes_72
  · refine lv_aload_n C0.1 C0.2.1 d_MO_goes_9 rfl (lv_at hl 0 rfl) ?_
    refine gf_MO_54 C0 hP 0 rfl rfl d_MO_goes_10 ?_
    refine lv_iload_n C0.1 C0.2.1 d_MO_goes_13 rfl (lv_at hl 2 rfl) ?_
    refine ald_z C0 hP 15 1 rfl rfl (by omega) (by decide) d_MO_goes_14 ?_
    refine lv_if_ne (tgt := 71) C0.1 C0.2.1 d_MO_goes_15 (by decide) (fun c_15 => ?_) (fun c_15 => ?_)
    · refine lv_iconst (v := nI 0) C0.1 C0.2.1 d_MO_goes_71 (by decide) ?_
      exact eR_z C0 hr hlk (b := goB kd ii oo sT sP p0 u v) (by rw [go_2 (bI_n0.mp c_15)]; rfl) rfl d_MO_goes_72
    · refine lv_aload_n C0.1 C0.2.1 d_MO_goes_18 rfl (lv_at hl 0 rfl) ?_
      refine gf_MO_54 C0 hP 0 rfl rfl d_MO_goes_19 ?_
      refine lv_iload_n C0.1 C0.2.1 d_MO_goes_22 rfl (lv_at hl 3 rfl) ?_
      refine ald_z C0 hP 15 1 rfl rfl (by omega) (by decide) d_MO_goes_23 ?_
      refine lv_if_ne (tgt := 71) C0.1 C0.2.1 d_MO_goes_24 (by decide) (fun c_24 => ?_) (fun c_24 => ?_)
      · refine lv_iconst (v := nI 0) C0.1 C0.2.1 d_MO_goes_71 (by decide) ?_
        exact eR_z C0 hr hlk (b := goB kd ii oo sT sP p0 u v) (by rw [go_3 (bI_n0.mp c_24)]; rfl) rfl d_MO_goes_72
      · refine lv_aload_n C0.1 C0.2.1 d_MO_goes_27 rfl (lv_at hl 0 rfl) ?_
        refine gf_MO_9 C0 hP 0 rfl rfl d_MO_goes_28 ?_
        refine lv_iload_n C0.1 C0.2.1 d_MO_goes_31 rfl (lv_at hl 2 rfl) ?_
        refine ald_i C0 hP 1 0 rfl rfl (by omega) (by decide) d_MO_goes_32 ?_
        refine lv_iconst (v := nI 1) C0.1 C0.2.1 d_MO_goes_33 (by decide) ?_
        refine lv_icmp_ne (tgt := 47) C0.1 C0.2.1 d_MO_goes_34 (by decide) (fun c_34 => ?_) (fun c_34 => ?_)
        · have g1 : (decide (kd u ≠ 1) || decide (oo u = nI v)) = true := lb_1 c_34
          refine lv_aload_n C0.1 C0.2.1 d_MO_goes_47 rfl (lv_at hl 0 rfl) ?_
          refine gf_MO_9 C0 hP 0 rfl rfl d_MO_goes_48 ?_
          refine lv_iload_n C0.1 C0.2.1 d_MO_goes_51 rfl (lv_at hl 3 rfl) ?_
          refine ald_i C0 hP 1 0 rfl rfl (by omega) (by decide) d_MO_goes_52 ?_
          refine lv_iconst (v := nI 1) C0.1 C0.2.1 d_MO_goes_53 (by decide) ?_
          refine lv_icmp_ne (tgt := 67) C0.1 C0.2.1 d_MO_goes_54 (by decide) (fun c_54 => ?_) (fun c_54 => ?_)
          · refine lv_iconst (v := nI 1) C0.1 C0.2.1 d_MO_goes_67 (by decide) ?_
            refine lv_goto (tgt := 72) C0.1 C0.2.1 d_MO_goes_68 (by decide) ?_
            exact eR_z C0 hr hlk (b := goB kd ii oo sT sP p0 u v) (by rw [go_5 (bI_0.mp c_6) (bI_0.mp c_15) (bI_0.mp c_24) (let_t g1 (lb_1 c_54))]; rfl) rfl d_MO_goes_72
          · refine lv_aload_n C0.1 C0.2.1 d_MO_goes_57 rfl (lv_at hl 0 rfl) ?_
            refine gf_MO_20 C0 hP 0 rfl rfl d_MO_goes_58 ?_
            refine lv_iload_n C0.1 C0.2.1 d_MO_goes_61 rfl (lv_at hl 3 rfl) ?_
            refine ald_i C0 hP 4 0 rfl rfl (by omega) (by decide) d_MO_goes_62 ?_
            refine lv_iload_n C0.1 C0.2.1 d_MO_goes_63 rfl (lv_at hl 2 rfl) ?_
            refine lv_icmp_ne (tgt := 71) C0.1 C0.2.1 d_MO_goes_64 (by decide) (fun c_64 => ?_) (fun c_64 => ?_)
            · refine lv_iconst (v := nI 0) C0.1 C0.2.1 d_MO_goes_71 (by decide) ?_
              exact eR_z C0 hr hlk (b := goB kd ii oo sT sP p0 u v) (by rw [go_4 (let_2 (by have := hk v; omega) c_54 c_64)]; rfl) rfl d_MO_goes_72
            · refine lv_iconst (v := nI 1) C0.1 C0.2.1 d_MO_goes_67 (by decide) ?_
              refine lv_goto (tgt := 72) C0.1 C0.2.1 d_MO_goes_68 (by decide) ?_
              exact eR_z C0 hr hlk (b := goB kd ii oo sT sP p0 u v) (by rw [go_5 (bI_0.mp c_6) (bI_0.mp c_15) (bI_0.mp c_24) (let_t g1 (lb_2 c_64))]; rfl) rfl d_MO_goes_72
        · refine lv_aload_n C0.1 C0.2.1 d_MO_goes_37 rfl (lv_at hl 0 rfl) ?_
          refine gf_MO_23 C0 hP 0 rfl rfl d_MO_goes_38 ?_
          refine lv_iload_n C0.1 C0.2.1 d_MO_goes_41 rfl (lv_at hl 2 rfl) ?_
          refine ald_i C0 hP 5 0 rfl rfl (by omega) (by decide) d_MO_goes_42 ?_
          refine lv_iload_n C0.1 C0.2.1 d_MO_goes_43 rfl (lv_at hl 3 rfl) ?_
          refine lv_icmp_ne (tgt := 71) C0.1 C0.2.1 d_MO_goes_44 (by decide) (fun c_44 => ?_) (fun c_44 => ?_)
          · refine lv_iconst (v := nI 0) C0.1 C0.2.1 d_MO_goes_71 (by decide) ?_
            exact eR_z C0 hr hlk (b := goB kd ii oo sT sP p0 u v) (by rw [go_4 (let_1 (by have := hk u; omega) c_34 c_44)]; rfl) rfl d_MO_goes_72
          · have g1 : (decide (kd u ≠ 1) || decide (oo u = nI v)) = true := lb_2 c_44
            refine lv_aload_n C0.1 C0.2.1 d_MO_goes_47 rfl (lv_at hl 0 rfl) ?_
            refine gf_MO_9 C0 hP 0 rfl rfl d_MO_goes_48 ?_
            refine lv_iload_n C0.1 C0.2.1 d_MO_goes_51 rfl (lv_at hl 3 rfl) ?_
            refine ald_i C0 hP 1 0 rfl rfl (by omega) (by decide) d_MO_goes_52 ?_
            refine lv_iconst (v := nI 1) C0.1 C0.2.1 d_MO_goes_53 (by decide) ?_
            refine lv_icmp_ne (tgt := 67) C0.1 C0.2.1 d_MO_goes_54 (by decide) (fun c_54 => ?_) (fun c_54 => ?_)
            · refine lv_iconst (v := nI 1) C0.1 C0.2.1 d_MO_goes_67 (by decide) ?_
              refine lv_goto (tgt := 72) C0.1 C0.2.1 d_MO_goes_68 (by decide) ?_
              exact eR_z C0 hr hlk (b := goB kd ii oo sT sP p0 u v) (by rw [go_5 (bI_0.mp c_6) (bI_0.mp c_15) (bI_0.mp c_24) (let_t g1 (lb_1 c_54))]; rfl) rfl d_MO_goes_72
            · refine lv_aload_n C0.1 C0.2.1 d_MO_goes_57 rfl (lv_at hl 0 rfl) ?_
              refine gf_MO_20 C0 hP 0 rfl rfl d_MO_goes_58 ?_
              refine lv_iload_n C0.1 C0.2.1 d_MO_goes_61 rfl (lv_at hl 3 rfl) ?_
              refine ald_i C0 hP 4 0 rfl rfl (by omega) (by decide) d_MO_goes_62 ?_
              refine lv_iload_n C0.1 C0.2.1 d_MO_goes_63 rfl (lv_at hl 2 rfl) ?_
              refine lv_icmp_ne (tgt := 71) C0.1 C0.2.1 d_MO_goes_64 (by decide) (fun c_64 => ?_) (fun c_64 => ?_)
              · refine lv_iconst (v := nI 0) C0.1 C0.2.1 d_MO_goes_71 (by decide) ?_
                exact eR_z C0 hr hlk (b := goB kd ii oo sT sP p0 u v) (by rw [go_4 (let_2 (by have := hk v; omega) c_54 c_64)]; rfl) rfl d_MO_goes_72
              · refine lv_iconst (v := nI 1) C0.1 C0.2.1 d_MO_goes_67 (by decide) ?_
                refine lv_goto (tgt := 72) C0.1 C0.2.1 d_MO_goes_68 (by decide) ?_
                exact eR_z C0 hr hlk (b := goB kd ii oo sT sP p0 u v) (by rw [go_5 (bI_0.mp c_6) (bI_0.mp c_15) (bI_0.mp c_24) (let_t g1 (lb_2 c_64))]; rfl) rfl d_MO_goes_72
end MODEL1

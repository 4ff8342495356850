section MODEL6
variable {l : Launch} {g : va_G} {t : Nat → ClassId} {b : Nat → Nat} {n : Nat} {kd : Nat → Nat} {em : Nat → Bool} {br : Nat → Bool} {ii : Nat → Int32} {oo : Nat → Int32} {np : Nat} {ea : Nat → Nat} {eb : Nat → Nat} {li : Nat → Nat} {rn : Nat → Bool} {wp : Nat → Nat} {wl : Nat → Nat} {wf : Nat → Nat} {wt : Nat → Nat} {wn : Nat} {ct : Nat → Nat} {sT : Nat → Bool} {sP : Nat → Bool} {sa : Nat → Nat} {sb : Nat → Nat} {rest : va_W}
set_option maxHeartbeats 4000000 in
set_option maxRecDepth 100000 in
theorem c_MO_way_no (x y : Int32) (hn : n ≤ 48) (hk : ∀ j, kd j < 3) (hno : ¬ refC n kd em x y = 0) : Rd l y_MO_way w_MO_way ({ frames := 4, cells := 0, slots := 0, locals := 104 }) g classes (tyL t) [.ref (b 0), .int x, .int y] (mW b t n kd em br ii oo np ea eb li rn wp wl wf wt wn ct sT sP sa sb rest) (some (.int (refC n kd em x y))) := by
  refine Rd.of (cc := b_MO_way) (maxL := 4) (ret := (some .int)) (own := R_MO) (by decide) rfl rfl (Nat.le_of_ble_eq_true rfl) ?_
  intro p e s m args below meth c C0 hr hlk hP ls hl
  have hl : lv_has ls 4 [(0, .ref (b 0)), (1, .int x), (2, .int y)] := hl
  refine lv_aload_n C0.1 C0.2.1 d_MO_way_0 rfl (lv_at hl 0 rfl) ?_
  refine lv_iload_n C0.1 C0.2.1 d_MO_way_1 rfl (lv_at hl 1 rfl) ?_
  refine lv_iload_n C0.1 C0.2.1 d_MO_way_2 rfl (lv_at hl 2 rfl) ?_
  refine cR (As := [.int x, .int y]) (rest := []) C0 (c_MO_wrong x y hn hk) (q_MO_109 C0.2.2.2.2.1 rfl rfl ⟨Nat.le_of_ble_eq_true rfl, Nat.le_of_ble_eq_true rfl⟩) (ci := 5) (q0 := 0) rfl rfl rfl hP hl.1 rfl rfl (Nat.le_of_ble_eq_true rfl) d_MO_way_3 ⟨Nat.zero_le _, Nat.zero_le _⟩ ?_
  refine W.eq (g2 := F0 m 6 ls [.int (refC n kd em x y)]) rfl ?_
  refine lv_istore_n (lv' := [(3, .int (refC n kd em x y)), (0, .ref (b 0)), (1, .int x), (2, .int y)]) C0.1 C0.2.1 d_MO_way_6 rfl hl (by decide) rfl (fun ls hl => ?_)
  refine lv_iload_n C0.1 C0.2.1 d_MO_way_7 rfl (lv_at hl 0 rfl) ?_
  refine lv_if_eq (tgt := 13) C0.1 C0.2.1 d_MO_way_8 (by decide) (fun c_8 => ?_) (fun c_8 => ?_)
  · exact absurd c_8 hno
  · refine lv_iload_n C0.1 C0.2.1 d_MO_way_11 rfl (lv_at hl 0 rfl) ?_
    exact eR_i C0 hr hlk (rfl) d_MO_way_12
set_option maxHeartbeats 4000000 in
set_option maxRecDepth 100000 in
theorem c_MO_way_full (u0 e0 : Nat) (hu0 : u0 < n) (he0 : e0 < n) (hok : refC n kd em (nI u0) (nI e0) = 0) (hwn : wn = 64) (hn : n ≤ 48) (hnp : np ≤ 96) (hk : ∀ j, kd j < 3) (hea : ∀ j, j < np → ea j < n) (heb : ∀ j, j < np → eb j < n) (hli : ∀ j, j < np → 1 ≤ li j ∧ li j ≤ 1000000000) : Mt l y_MO_way w_MO_way ({ frames := 4, cells := 0, slots := 0, locals := 104 }) g classes (tyL t) [.ref (b 0), .int (nI u0), .int (nI e0)] (mW b t n kd em br ii oo np ea eb li rn wp wl wf wt wn ct sT sP sa sb rest) (S := ((Nat → Bool) × (Nat → Bool)) × (Nat → Nat) × Bool) (fun v z => v = some (.int (if z.2.2 = true then -5 else -1)) ∧ (∀ x, x < n → z.1.1 x = shT kd br rn ea eb np x) ∧ (∀ p, p < np → z.1.2 p = rn p) ∧ ((z.2.2 = true ∧ mYes n kd ii oo np ea eb li z.1.1 z.1.2 u0 e0) ∨ (z.2.2 = false ∧ mNo n kd ii oo np ea eb li z.1.1 z.1.2 u0 e0))) (fun z => (mW b t n kd em br ii oo np ea eb li rn wp wl wf wt wn z.2.1 z.1.1 z.1.2 sa sb rest)) 0 0 := by
  refine Mt.of (cc := b_MO_way) (maxL := 4) (ret := (some .int)) (own := R_MO) (by decide) rfl rfl (Nat.le_of_ble_eq_true rfl) ?_
  intro p e s m args below meth c C0 hr hlk hin A hA hB ls hl
  have hl : lv_has ls 4 [(0, .ref (b 0)), (1, .int (nI u0)), (2, .int (nI e0))] := hl
  refine lv_aload_n C0.1 C0.2.1 d_MO_way_0 rfl (lv_at hl 0 rfl) ?_
  refine lv_iload_n C0.1 C0.2.1 d_MO_way_1 rfl (lv_at hl 1 rfl) ?_
  refine lv_iload_n C0.1 C0.2.1 d_MO_way_2 rfl (lv_at hl 2 rfl) ?_
  refine cR (As := [.int (nI u0), .int (nI e0)]) (rest := []) C0 (c_MO_wrong (nI u0) (nI e0) hn hk) (q_MO_109 C0.2.2.2.2.1 rfl rfl ⟨Nat.le_of_ble_eq_true rfl, Nat.le_of_ble_eq_true rfl⟩) (ci := 5) (q0 := 0) rfl rfl rfl hB.1 hl.1 rfl rfl (Nat.le_of_ble_eq_true rfl) d_MO_way_3 ⟨Nat.zero_le _, Nat.zero_le _⟩ ?_
  refine W.eq (g2 := F0 m 6 ls [.int (refC n kd em (nI u0) (nI e0))]) rfl ?_
  refine lv_istore_n (lv' := [(3, .int (refC n kd em (nI u0) (nI e0))), (0, .ref (b 0)), (1, .int (nI u0)), (2, .int (nI e0))]) C0.1 C0.2.1 d_MO_way_6 rfl hl (by decide) rfl (fun ls hl => ?_)
  refine lv_iload_n C0.1 C0.2.1 d_MO_way_7 rfl (lv_at hl 0 rfl) ?_
  refine lv_if_eq (tgt := 13) C0.1 C0.2.1 d_MO_way_8 (by decide) (fun c_8 => ?_) (fun c_8 => ?_)
  · refine lv_aload_n C0.1 C0.2.1 d_MO_way_13 rfl (lv_at hl 1 rfl) ?_
    refine cM (As := []) (rest := []) C0 (c_MO_shut hn hnp hk hea heb) (q_MO_113 C0.2.2.2.2.1 rfl rfl ⟨Nat.le_of_ble_eq_true rfl, Nat.le_of_ble_eq_true rfl⟩) (ci := 5) (q0 := 0) rfl rfl rfl hB hl.1 rfl rfl (Nat.le_of_ble_eq_true rfl) d_MO_way_14 ⟨Nat.zero_le _, Nat.zero_le _⟩ (fun v_14 u_14 H locs hp_14 hB => ?_)
    obtain ⟨s1, s2⟩ := u_14
    obtain ⟨rfl, hs1, hs2⟩ := hp_14
    have hB : wB g classes A s.heap (mW b t n kd em br ii oo np ea eb li rn wp wl wf wt wn ct s1 s2 sa sb rest) H locs := hB
    refine W.eq (g2 := F0 m 17 ls []) rfl ?_
    refine lv_aload_n C0.1 C0.2.1 d_MO_way_17 rfl (lv_at hl 1 rfl) ?_
    refine gf_MO_116 C0 hB.1 0 rfl rfl d_MO_way_18 ?_
    refine lv_bipush (v := nI 64) C0.1 C0.2.1 d_MO_way_21 (by decide) ?_
    refine lv_icmp_ne (tgt := 42) C0.1 C0.2.1 d_MO_way_23 (by decide) (fun c_23 => ?_) (fun c_23 => ?_)
    · exact absurd (by rw [hwn]) c_23
    · refine lv_aload_n C0.1 C0.2.1 d_MO_way_26 rfl (lv_at hl 1 rfl) ?_
      refine lv_iload_n C0.1 C0.2.1 d_MO_way_27 rfl (lv_at hl 2 rfl) ?_
      refine lv_iload_n C0.1 C0.2.1 d_MO_way_28 rfl (lv_at hl 3 rfl) ?_
      refine cM (As := [.int (nI u0), .int (nI e0)]) (rest := []) C0 (c_MO_exists u0 e0 (by omega) (by omega) hn hnp hk hea heb hli) (q_MO_119 C0.2.2.2.2.1 rfl rfl ⟨Nat.le_of_ble_eq_true rfl, Nat.le_of_ble_eq_true rfl⟩) (ci := 5) (q0 := 0) rfl rfl rfl hB hl.1 rfl rfl (Nat.le_of_ble_eq_true rfl) d_MO_way_29 ⟨Nat.zero_le _, Nat.zero_le _⟩ (fun v_29 u_29 H locs hp_29 hB => ?_)
      obtain ⟨d1, y1⟩ := u_29
      obtain ⟨rfl, hy⟩ := hp_29
      have hB : wB g classes A s.heap (mW b t n kd em br ii oo np ea eb li rn wp wl wf wt wn d1 s1 s2 sa sb rest) H locs := hB
      refine W.eq (g2 := F0 m 32 ls [.int (bI y1)]) rfl ?_
      refine lv_if_eq (tgt := 40) C0.1 C0.2.1 d_MO_way_32 (by decide) (fun c_32 => ?_) (fun c_32 => ?_)
      · refine lv_iconst (v := -1) C0.1 C0.2.1 d_MO_way_40 (by decide) ?_
        exact eM_i C0 hr hlk ((s1, s2), d1, y1) hB ⟨by rw [bI_0.mp c_32]; rfl, hs1, hs2, hy⟩ (Nat.le_refl _) (Nat.le_refl _) d_MO_way_41
      · refine lv_bipush (v := -5) C0.1 C0.2.1 d_MO_way_35 (by decide) ?_
        refine lv_goto (tgt := 41) C0.1 C0.2.1 d_MO_way_37 (by decide) ?_
        exact eM_i C0 hr hlk ((s1, s2), d1, y1) hB ⟨by rw [bI_n0.mp c_32]; rfl, hs1, hs2, hy⟩ (Nat.le_refl _) (Nat.le_refl _) d_MO_way_41
  · exact absurd hok c_8
set_option maxHeartbeats 4000000 in
set_option maxRecDepth 100000 in
theorem c_MO_way (u0 e0 : Nat) (hu0 : u0 < n) (he0 : e0 < n) (hok : refC n kd em (nI u0) (nI e0) = 0) (hwn : wn < 64) (hne : ∀ j, j < np → ea j ≠ eb j) (hn : n ≤ 48) (hnp : np ≤ 96) (hk : ∀ j, kd j < 3) (hea : ∀ j, j < np → ea j < n) (heb : ∀ j, j < np → eb j < n) (hli : ∀ j, j < np → 1 ≤ li j ∧ li j ≤ 1000000000) : Mt l y_MO_way w_MO_way ({ frames := 4, cells := 0, slots := 0, locals := 104 }) g classes (tyL t) [.ref (b 0), .int (nI u0), .int (nI e0)] (mW b t n kd em br ii oo np ea eb li rn wp wl wf wt wn ct sT sP sa sb rest) (S := ((Nat → Bool) × (Nat → Bool)) × ((Nat → Nat) × (Nat → Nat) × (Nat → Nat) × (Nat → Nat) × (Nat → Nat)) × Option (List (Nat × Nat))) (fun v z => v = some (.int (if z.2.2.isSome = true then nI wn else -1)) ∧ (∀ x, x < n → z.1.1 x = shT kd br rn ea eb np x) ∧ (∀ p, p < np → z.1.2 p = rn p) ∧ ((∃ w, z.2.2 = some w ∧ mFw n kd ii oo np ea eb li z.1.1 z.1.2 u0 e0 w ∧ (∀ j, j < w.length → z.2.1.2.1 (wn * 48 + j) = (rPl w).getD j 0) ∧ (∀ x, (x < wn * 48 ∨ wn * 48 + 48 ≤ x) → z.2.1.2.1 x = wp x) ∧ z.2.1.2.2.1 = va_up wl wn w.length ∧ z.2.1.2.2.2.1 = va_up wf wn u0 ∧ z.2.1.2.2.2.2 = va_up wt wn e0) ∨ (z.2.2 = none ∧ mNo n kd ii oo np ea eb li z.1.1 z.1.2 u0 e0 ∧ z.2.1.2 = (wp, wl, wf, wt)))) (fun z => (mW b t n kd em br ii oo np ea eb li rn z.2.1.2.1 z.2.1.2.2.1 z.2.1.2.2.2.1 z.2.1.2.2.2.2 (if z.2.2.isSome = true then wn + 1 else wn) z.2.1.1 z.1.1 z.1.2 sa sb rest)) 0 0 := by
  refine Mt.of (cc := b_MO_way) (maxL := 4) (ret := (some .int)) (own := R_MO) (by decide) rfl rfl (Nat.le_of_ble_eq_true rfl) ?_
  intro p e s m args below meth c C0 hr hlk hin A hA hB ls hl
  have hl : lv_has ls 4 [(0, .ref (b 0)), (1, .int (nI u0)), (2, .int (nI e0))] := hl
  refine lv_aload_n C0.1 C0.2.1 d_MO_way_0 rfl (lv_at hl 0 rfl) ?_
  refine lv_iload_n C0.1 C0.2.1 d_MO_way_1 rfl (lv_at hl 1 rfl) ?_
  refine lv_iload_n C0.1 C0.2.1 d_MO_way_2 rfl (lv_at hl 2 rfl) ?_
  refine cR (As := [.int (nI u0), .int (nI e0)]) (rest := []) C0 (c_MO_wrong (nI u0) (nI e0) hn hk) (q_MO_109 C0.2.2.2.2.1 rfl rfl ⟨Nat.le_of_ble_eq_true rfl, Nat.le_of_ble_eq_true rfl⟩) (ci := 5) (q0 := 0) rfl rfl rfl hB.1 hl.1 rfl rfl (Nat.le_of_ble_eq_true rfl) d_MO_way_3 ⟨Nat.zero_le _, Nat.zero_le _⟩ ?_
  refine W.eq (g2 := F0 m 6 ls [.int (refC n kd em (nI u0) (nI e0))]) rfl ?_
  refine lv_istore_n (lv' := [(3, .int (refC n kd em (nI u0) (nI e0))), (0, .ref (b 0)), (1, .int (nI u0)), (2, .int (nI e0))]) C0.1 C0.2.1 d_MO_way_6 rfl hl (by decide) rfl (fun ls hl => ?_)
  refine lv_iload_n C0.1 C0.2.1 d_MO_way_7 rfl (lv_at hl 0 rfl) ?_
  refine lv_if_eq (tgt := 13) C0.1 C0.2.1 d_MO_way_8 (by decide) (fun c_8 => ?_) (fun c_8 => ?_)
  · refine lv_aload_n C0.1 C0.2.1 d_MO_way_13 rfl (lv_at hl 1 rfl) ?_
    refine cM (As := []) (rest := []) C0 (c_MO_shut hn hnp hk hea heb) (q_MO_113 C0.2.2.2.2.1 rfl rfl ⟨Nat.le_of_ble_eq_true rfl, Nat.le_of_ble_eq_true rfl⟩) (ci := 5) (q0 := 0) rfl rfl rfl hB hl.1 rfl rfl (Nat.le_of_ble_eq_true rfl) d_MO_way_14 ⟨Nat.zero_le _, Nat.zero_le _⟩ (fun v_14 u_14 H locs hp_14 hB => ?_)
    obtain ⟨s1, s2⟩ := u_14
    obtain ⟨rfl, hs1, hs2⟩ := hp_14
    have hB : wB g classes A s.heap (mW b t n kd em br ii oo np ea eb li rn wp wl wf wt wn ct s1 s2 sa sb rest) H locs := hB
    refine W.eq (g2 := F0 m 17 ls []) rfl ?_
    refine lv_aload_n C0.1 C0.2.1 d_MO_way_17 rfl (lv_at hl 1 rfl) ?_
    refine gf_MO_116 C0 hB.1 0 rfl rfl d_MO_way_18 ?_
    refine lv_bipush (v := nI 64) C0.1 C0.2.1 d_MO_way_21 (by decide) ?_
    refine lv_icmp_ne (tgt := 42) C0.1 C0.2.1 d_MO_way_23 (by decide) (fun c_23 => ?_) (fun c_23 => ?_)
    · refine lv_aload_n C0.1 C0.2.1 d_MO_way_42 rfl (lv_at hl 1 rfl) ?_
      refine lv_iload_n C0.1 C0.2.1 d_MO_way_43 rfl (lv_at hl 2 rfl) ?_
      refine lv_iload_n C0.1 C0.2.1 d_MO_way_44 rfl (lv_at hl 3 rfl) ?_
      refine lv_aload_n C0.1 C0.2.1 d_MO_way_45 rfl (lv_at hl 1 rfl) ?_
      refine gf_MO_116 C0 hB.1 0 rfl rfl d_MO_way_46 ?_
      refine cM (As := [.int (nI u0), .int (nI e0), .int (nI wn)]) (rest := []) C0 (c_MO_walk u0 e0 wn (by omega) (by omega) (by omega) hne hn hnp hk hea heb hli) (q_MO_122 C0.2.2.2.2.1 rfl rfl ⟨Nat.le_of_ble_eq_true rfl, Nat.le_of_ble_eq_true rfl⟩) (ci := 5) (q0 := 0) rfl rfl rfl hB hl.1 rfl rfl (Nat.le_of_ble_eq_true rfl) d_MO_way_49 ⟨Nat.zero_le _, Nat.zero_le _⟩ (fun v_49 u_49 H locs hp_49 hB => ?_)
      obtain ⟨⟨d1, wp1, wl1, wf1, wt1⟩, ow1⟩ := u_49
      obtain ⟨rfl, hk1⟩ := hp_49
      have hB : wB g classes A s.heap (mW b t n kd em br ii oo np ea eb li rn wp1 wl1 wf1 wt1 wn d1 s1 s2 sa sb rest) H locs := hB
      refine W.eq (g2 := F0 m 52 ls [.int (bI ow1.isSome)]) rfl ?_
      refine lv_if_ne (tgt := 57) C0.1 C0.2.1 d_MO_way_52 (by decide) (fun c_52 => ?_) (fun c_52 => ?_)
      · refine lv_aload_n C0.1 C0.2.1 d_MO_way_57 rfl (lv_at hl 1 rfl) ?_
        refine lv_dup C0.1 C0.2.1 d_MO_way_58 rfl ?_
        refine gf_MO_116 C0 hB.1 0 rfl rfl d_MO_way_59 ?_
        refine lv_iconst (v := nI 1) C0.1 C0.2.1 d_MO_way_62 (by decide) ?_
        refine lv_iadd C0.1 C0.2.1 d_MO_way_63 ?_
        refine ti (show (nI wn) + (nI 1) = nI (wn + 1) from nI_add _ _) ?_
        refine pf_MO_116 (w' := (mW b t n kd em br ii oo np ea eb li rn wp1 wl1 wf1 wt1 (wn + 1) d1 s1 s2 sa sb rest)) C0 hB 0 rfl (Nat.le_of_ble_eq_true rfl) rfl rfl rfl d_MO_way_64 (fun H locs hB => ?_)
        refine lv_aload_n C0.1 C0.2.1 d_MO_way_67 rfl (lv_at hl 1 rfl) ?_
        refine gf_MO_116 C0 hB.1 0 rfl rfl d_MO_way_68 ?_
        refine lv_iconst (v := nI 1) C0.1 C0.2.1 d_MO_way_71 (by decide) ?_
        refine lv_isub C0.1 C0.2.1 d_MO_way_72 ?_
        refine ti (show (nI (wn + 1)) - (nI 1) = nI wn from (pk_sub (by omega) : nI (wn + 1) - nI 1 = nI (wn + 1 - 1))) ?_
        exact eM_i C0 hr hlk ((s1, s2), (d1, wp1, wl1, wf1, wt1), ow1) (show wB g classes A s.heap (mW b t n kd em br ii oo np ea eb li rn wp1 wl1 wf1 wt1 (if ow1.isSome = true then wn + 1 else wn) d1 s1 s2 sa sb rest) H locs by rw [show (if ow1.isSome = true then wn + 1 else wn) = wn + 1 by rw [bI_n0.mp c_52]; rfl]; exact hB) ⟨by rw [bI_n0.mp c_52]; rfl, hs1, hs2, hk1⟩ (Nat.le_refl _) (Nat.le_refl _) d_MO_way_73
      · refine lv_iconst (v := -1) C0.1 C0.2.1 d_MO_way_55 (by decide) ?_
        exact eM_i C0 hr hlk ((s1, s2), (d1, wp1, wl1, wf1, wt1), ow1) (show wB g classes A s.heap (mW b t n kd em br ii oo np ea eb li rn wp1 wl1 wf1 wt1 (if ow1.isSome = true then wn + 1 else wn) d1 s1 s2 sa sb rest) H locs by rw [show (if ow1.isSome = true then wn + 1 else wn) = wn by rw [bI_0.mp c_52]; rfl]; exact hB) ⟨by rw [bI_0.mp c_52]; rfl, hs1, hs2, hk1⟩ (Nat.le_refl _) (Nat.le_refl _) d_MO_way_56
    · exact absurd ((nI_eq (by omega) (by decide)).mp c_23) (by omega)
  · exact absurd hok c_8
set_option maxHeartbeats 4000000 in
set_option maxRecDepth 100000 in
theorem c_MO_other_no (x : Int32) (hwn : wn ≤ 64) (hno : hasB wn x = false) (k : Int32) : Rd l y_MO_other w_MO_other ({ frames := 4, cells := 0, slots := 0, locals := 104 }) g classes (tyL t) [.ref (b 0), .int x, .int k] (mW b t n kd em br ii oo np ea eb li rn wp wl wf wt wn ct sT sP sa sb rest) (some (.int (-2))) := by
  refine Rd.of (cc := b_MO_other) (maxL := 3) (ret := (some .int)) (own := R_MO) (by decide) rfl rfl (Nat.le_of_ble_eq_true rfl) ?_
  intro p e s m args below meth c C0 hr hlk hP ls hl
  have hl : lv_has ls 3 [(0, .ref (b 0)), (1, .int x), (2, .int k)] := hl
  refine lv_aload_n C0.1 C0.2.1 d_MO_other_0 rfl (lv_at hl 0 rfl) ?_
  refine lv_iload_n C0.1 C0.2.1 d_MO_other_1 rfl (lv_at hl 1 rfl) ?_
  refine cR (As := [.int x]) (rest := []) C0 (c_MO_isWay x hwn) (q_MO_125 C0.2.2.2.2.1 rfl rfl ⟨Nat.le_of_ble_eq_true rfl, Nat.le_of_ble_eq_true rfl⟩) (ci := 5) (q0 := 0) rfl rfl rfl hP hl.1 rfl rfl (Nat.le_of_ble_eq_true rfl) d_MO_other_2 ⟨Nat.zero_le _, Nat.zero_le _⟩ ?_
  refine W.eq (g2 := F0 m 5 ls [.int (bI (hasB wn x))]) rfl ?_
  refine lv_if_ne (tgt := 11) C0.1 C0.2.1 d_MO_other_5 (by decide) (fun c_5 => ?_) (fun c_5 => ?_)
  · exact absurd hno (by rw [bI_n0.mp c_5]; decide)
  · refine lv_bipush (v := -2) C0.1 C0.2.1 d_MO_other_8 (by decide) ?_
    exact eR_i C0 hr hlk (rfl) d_MO_other_10
set_option maxHeartbeats 4000000 in
set_option maxRecDepth 100000 in
theorem c_MO_other_out (i0 fr to0 : Nat) (pl : List Nat) (hi0 : i0 < 64) (hwl : wl i0 = pl.length) (hwp : ∀ j, j < pl.length → wp (i0 * 48 + j) = pl.getD j 0) (hwf : wf i0 = fr) (hwt : wt i0 = to0) (hpl : ∀ p ∈ pl, p < np) (hl48 : pl.length < 48) (hiw : i0 < wn) (hwn : wn ≤ 64) (k : Int32) (hk0 : hasB pl.length k = false) : Rd l y_MO_other w_MO_other ({ frames := 4, cells := 0, slots := 0, locals := 104 }) g classes (tyL t) [.ref (b 0), .int (nI i0), .int k] (mW b t n kd em br ii oo np ea eb li rn wp wl wf wt wn ct sT sP sa sb rest) (some (.int (-1))) := by
  refine Rd.of (cc := b_MO_other) (maxL := 3) (ret := (some .int)) (own := R_MO) (by decide) rfl rfl (Nat.le_of_ble_eq_true rfl) ?_
  intro p e s m args below meth c C0 hr hlk hP ls hl
  have hl : lv_has ls 3 [(0, .ref (b 0)), (1, .int (nI i0)), (2, .int k)] := hl
  refine lv_aload_n C0.1 C0.2.1 d_MO_other_0 rfl (lv_at hl 0 rfl) ?_
  refine lv_iload_n C0.1 C0.2.1 d_MO_other_1 rfl (lv_at hl 1 rfl) ?_
  refine cR (As := [.int (nI i0)]) (rest := []) C0 (c_MO_isWay (nI i0) hwn) (q_MO_125 C0.2.2.2.2.1 rfl rfl ⟨Nat.le_of_ble_eq_true rfl, Nat.le_of_ble_eq_true rfl⟩) (ci := 5) (q0 := 0) rfl rfl rfl hP hl.1 rfl rfl (Nat.le_of_ble_eq_true rfl) d_MO_other_2 ⟨Nat.zero_le _, Nat.zero_le _⟩ ?_
  refine W.eq (g2 := F0 m 5 ls [.int (bI (hasB wn (nI i0)))]) rfl ?_
  refine lv_if_ne (tgt := 11) C0.1 C0.2.1 d_MO_other_5 (by decide) (fun c_5 => ?_) (fun c_5 => ?_)
  · refine lv_iload_n C0.1 C0.2.1 d_MO_other_11 rfl (lv_at hl 2 rfl) ?_
    refine lv_if_lt (tgt := 25) C0.1 C0.2.1 d_MO_other_12 (by decide) (fun c_12 => ?_) (fun c_12 => ?_)
    · refine lv_iconst (v := -1) C0.1 C0.2.1 d_MO_other_25 (by decide) ?_
      exact eR_i C0 hr hlk (rfl) d_MO_other_26
    · refine lv_iload_n C0.1 C0.2.1 d_MO_other_15 rfl (lv_at hl 2 rfl) ?_
      refine lv_aload_n C0.1 C0.2.1 d_MO_other_16 rfl (lv_at hl 0 rfl) ?_
      refine gf_MO_42 C0 hP 0 rfl rfl d_MO_other_17 ?_
      refine lv_iload_n C0.1 C0.2.1 d_MO_other_20 rfl (lv_at hl 1 rfl) ?_
      refine ald_i C0 hP 11 0 rfl rfl (by omega) (by decide) d_MO_other_21 ?_
      refine ti (show nI (wl i0) = nI pl.length from by rw [hwl]) ?_
      refine lv_icmp_lt (tgt := 27) C0.1 C0.2.1 d_MO_other_22 (by decide) (fun c_22 => ?_) (fun c_22 => ?_)
      · exact absurd (hasB_t (n := pl.length) (by omega) c_12 (fun q => by have h1 := Int32.lt_iff_toInt_lt.mp c_22; have h2 := Int32.le_iff_toInt_le.mp q; omega)) (by rw [hk0]; decide)
      · refine lv_iconst (v := -1) C0.1 C0.2.1 d_MO_other_25 (by decide) ?_
        exact eR_i C0 hr hlk (rfl) d_MO_other_26
  · exact absurd (bI_0.mp c_5) (by rw [hasB_nI (by omega), decide_eq_true hiw]; decide)
set_option maxHeartbeats 4000000 in
set_option maxRecDepth 100000 in
theorem c_MO_other_full (i0 fr to0 : Nat) (pl : List Nat) (hi0 : i0 < 64) (hwl : wl i0 = pl.length) (hwp : ∀ j, j < pl.length → wp (i0 * 48 + j) = pl.getD j 0) (hwf : wf i0 = fr) (hwt : wt i0 = to0) (hpl : ∀ p ∈ pl, p < np) (hl48 : pl.length < 48) (hiw : i0 < wn) (k0 : Nat) (hk1 : k0 < pl.length) (hfr : fr < n) (hto : to0 < n) (hwn : wn = 64) (hn : n ≤ 48) (hnp : np ≤ 96) (hk : ∀ j, kd j < 3) (hea : ∀ j, j < np → ea j < n) (heb : ∀ j, j < np → eb j < n) (hli : ∀ j, j < np → 1 ≤ li j ∧ li j ≤ 1000000000) : Mt l y_MO_other w_MO_other ({ frames := 4, cells := 0, slots := 0, locals := 104 }) g classes (tyL t) [.ref (b 0), .int (nI i0), .int (nI k0)] (mW b t n kd em br ii oo np ea eb li rn wp wl wf wt wn ct sT sP sa sb rest) (S := ((Nat → Bool) × (Nat → Bool)) × (Nat → Nat) × Bool) (fun v z => v = some (.int (if z.2.2 = true then -5 else -1)) ∧ (∀ x, x < n → z.1.1 x = shT kd br rn ea eb np x) ∧ (∀ p, p < np → z.1.2 p = (rn p || decide (p = (pl.getD k0 0)))) ∧ ((z.2.2 = true ∧ mYes n kd ii oo np ea eb li z.1.1 z.1.2 fr to0) ∨ (z.2.2 = false ∧ mNo n kd ii oo np ea eb li z.1.1 z.1.2 fr to0))) (fun z => (mW b t n kd em br ii oo np ea eb li rn wp wl wf wt wn z.2.1 z.1.1 z.1.2 sa sb rest)) 0 0 := by
  refine Mt.of (cc := b_MO_other) (maxL := 3) (ret := (some .int)) (own := R_MO) (by decide) rfl rfl (Nat.le_of_ble_eq_true rfl) ?_
  intro p e s m args below meth c C0 hr hlk hin A hA hB ls hl
  have hl : lv_has ls 3 [(0, .ref (b 0)), (1, .int (nI i0)), (2, .int (nI k0))] := hl
  refine lv_aload_n C0.1 C0.2.1 d_MO_other_0 rfl (lv_at hl 0 rfl) ?_
  refine lv_iload_n C0.1 C0.2.1 d_MO_other_1 rfl (lv_at hl 1 rfl) ?_
  refine cR (As := [.int (nI i0)]) (rest := []) C0 (c_MO_isWay (nI i0) (by omega)) (q_MO_125 C0.2.2.2.2.1 rfl rfl ⟨Nat.le_of_ble_eq_true rfl, Nat.le_of_ble_eq_true rfl⟩) (ci := 5) (q0 := 0) rfl rfl rfl hB.1 hl.1 rfl rfl (Nat.le_of_ble_eq_true rfl) d_MO_other_2 ⟨Nat.zero_le _, Nat.zero_le _⟩ ?_
  refine W.eq (g2 := F0 m 5 ls [.int (bI (hasB wn (nI i0)))]) rfl ?_
  refine lv_if_ne (tgt := 11) C0.1 C0.2.1 d_MO_other_5 (by decide) (fun c_5 => ?_) (fun c_5 => ?_)
  · refine lv_iload_n C0.1 C0.2.1 d_MO_other_11 rfl (lv_at hl 2 rfl) ?_
    refine lv_if_lt (tgt := 25) C0.1 C0.2.1 d_MO_other_12 (by decide) (fun c_12 => ?_) (fun c_12 => ?_)
    · exact absurd c_12 (nI_pos (by omega))
    · refine lv_iload_n C0.1 C0.2.1 d_MO_other_15 rfl (lv_at hl 2 rfl) ?_
      refine lv_aload_n C0.1 C0.2.1 d_MO_other_16 rfl (lv_at hl 0 rfl) ?_
      refine gf_MO_42 C0 hB.1 0 rfl rfl d_MO_other_17 ?_
      refine lv_iload_n C0.1 C0.2.1 d_MO_other_20 rfl (lv_at hl 1 rfl) ?_
      refine ald_i C0 hB.1 11 0 rfl rfl (by omega) (by decide) d_MO_other_21 ?_
      refine ti (show nI (wl i0) = nI pl.length from by rw [hwl]) ?_
      refine lv_icmp_lt (tgt := 27) C0.1 C0.2.1 d_MO_other_22 (by decide) (fun c_22 => ?_) (fun c_22 => ?_)
      · have hpn := hpl _ (gD_mem hk1)
        refine lv_aload_n C0.1 C0.2.1 d_MO_other_27 rfl (lv_at hl 0 rfl) ?_
        refine cM (As := []) (rest := []) C0 (c_MO_shut hn hnp hk hea heb) (q_MO_113 C0.2.2.2.2.1 rfl rfl ⟨Nat.le_of_ble_eq_true rfl, Nat.le_of_ble_eq_true rfl⟩) (ci := 5) (q0 := 0) rfl rfl rfl hB hl.1 rfl rfl (Nat.le_of_ble_eq_true rfl) d_MO_other_28 ⟨Nat.zero_le _, Nat.zero_le _⟩ (fun v_28 u_28 H locs hp_28 hB => ?_)
        obtain ⟨s1, s2⟩ := u_28
        obtain ⟨rfl, hs1, hs2⟩ := hp_28
        have hB : wB g classes A s.heap (mW b t n kd em br ii oo np ea eb li rn wp wl wf wt wn ct s1 s2 sa sb rest) H locs := hB
        refine W.eq (g2 := F0 m 31 ls []) rfl ?_
        refine lv_aload_n C0.1 C0.2.1 d_MO_other_31 rfl (lv_at hl 0 rfl) ?_
        refine gf_MO_57 C0 hB.1 0 rfl rfl d_MO_other_32 ?_
        refine lv_aload_n C0.1 C0.2.1 d_MO_other_35 rfl (lv_at hl 0 rfl) ?_
        refine gf_MO_39 C0 hB.1 0 rfl rfl d_MO_other_36 ?_
        refine lv_iload_n C0.1 C0.2.1 d_MO_other_39 rfl (lv_at hl 1 rfl) ?_
        refine lv_bipush (v := nI 48) C0.1 C0.2.1 d_MO_other_40 (by decide) ?_
        refine lv_imul C0.1 C0.2.1 d_MO_other_42 ?_
        refine ti (show (nI i0) * (nI 48) = nI (i0 * 48) from pk_mul _ _) ?_
        refine lv_iload_n C0.1 C0.2.1 d_MO_other_43 rfl (lv_at hl 2 rfl) ?_
        refine lv_iadd C0.1 C0.2.1 d_MO_other_44 ?_
        refine ti (show (nI (i0 * 48)) + (nI k0) = nI (i0 * 48 + k0) from nI_add _ _) ?_
        refine ald_i C0 hB.1 10 0 rfl rfl (by omega) (by decide) d_MO_other_45 ?_
        refine ti (show nI (wp (i0 * 48 + k0)) = nI (pl.getD k0 0) from by rw [hwp k0 hk1]) ?_
        refine lv_iconst (v := bI true) C0.1 C0.2.1 d_MO_other_46 (by decide) ?_
        refine ast_z (w' := (mW b t n kd em br ii oo np ea eb li rn wp wl wf wt wn ct s1 (va_up s2 (pl.getD k0 0) true) sa sb rest)) C0 hB 16 1 rfl rfl (by omega) (by decide) up_bI rfl d_MO_other_47 (fun H locs hB => ?_)
        refine lv_aload_n C0.1 C0.2.1 d_MO_other_48 rfl (lv_at hl 0 rfl) ?_
        refine gf_MO_116 C0 hB.1 0 rfl rfl d_MO_other_49 ?_
        refine lv_bipush (v := nI 64) C0.1 C0.2.1 d_MO_other_52 (by decide) ?_
        refine lv_icmp_ne (tgt := 83) C0.1 C0.2.1 d_MO_other_54 (by decide) (fun c_54 => ?_) (fun c_54 => ?_)
        · exact absurd (by rw [hwn]) c_54
        · refine lv_aload_n C0.1 C0.2.1 d_MO_other_57 rfl (lv_at hl 0 rfl) ?_
          refine lv_aload_n C0.1 C0.2.1 d_MO_other_58 rfl (lv_at hl 0 rfl) ?_
          refine gf_MO_45 C0 hB.1 0 rfl rfl d_MO_other_59 ?_
          refine lv_iload_n C0.1 C0.2.1 d_MO_other_62 rfl (lv_at hl 1 rfl) ?_
          refine ald_i C0 hB.1 12 0 rfl rfl (by omega) (by decide) d_MO_other_63 ?_
          refine ti (show nI (wf i0) = nI fr from by rw [hwf]) ?_
          refine lv_aload_n C0.1 C0.2.1 d_MO_other_64 rfl (lv_at hl 0 rfl) ?_
          refine gf_MO_48 C0 hB.1 0 rfl rfl d_MO_other_65 ?_
          refine lv_iload_n C0.1 C0.2.1 d_MO_other_68 rfl (lv_at hl 1 rfl) ?_
          refine ald_i C0 hB.1 13 0 rfl rfl (by omega) (by decide) d_MO_other_69 ?_
          refine ti (show nI (wt i0) = nI to0 from by rw [hwt]) ?_
          refine cM (As := [.int (nI fr), .int (nI to0)]) (rest := []) C0 (c_MO_exists fr to0 (by omega) (by omega) hn hnp hk hea heb hli) (q_MO_119 C0.2.2.2.2.1 rfl rfl ⟨Nat.le_of_ble_eq_true rfl, Nat.le_of_ble_eq_true rfl⟩) (ci := 5) (q0 := 0) rfl rfl rfl hB hl.1 rfl rfl (Nat.le_of_ble_eq_true rfl) d_MO_other_70 ⟨Nat.zero_le _, Nat.zero_le _⟩ (fun v_70 u_70 H locs hp_70 hB => ?_)
          obtain ⟨d1, y1⟩ := u_70
          obtain ⟨rfl, hy⟩ := hp_70
          have hB : wB g classes A s.heap (mW b t n kd em br ii oo np ea eb li rn wp wl wf wt wn d1 s1 (va_up s2 (pl.getD k0 0) true) sa sb rest) H locs := hB
          refine W.eq (g2 := F0 m 73 ls [.int (bI y1)]) rfl ?_
          refine lv_if_eq (tgt := 81) C0.1 C0.2.1 d_MO_other_73 (by decide) (fun c_73 => ?_) (fun c_73 => ?_)
          · refine lv_iconst (v := -1) C0.1 C0.2.1 d_MO_other_81 (by decide) ?_
            exact eM_i C0 hr hlk ((s1, (va_up s2 (pl.getD k0 0) true)), d1, y1) hB ⟨by rw [bI_0.mp c_73]; rfl, hs1, ot_p hs2, hy⟩ (Nat.le_refl _) (Nat.le_refl _) d_MO_other_82
          · refine lv_bipush (v := -5) C0.1 C0.2.1 d_MO_other_76 (by decide) ?_
            refine lv_goto (tgt := 82) C0.1 C0.2.1 d_MO_other_78 (by decide) ?_
            exact eM_i C0 hr hlk ((s1, (va_up s2 (pl.getD k0 0) true)), d1, y1) hB ⟨by rw [bI_n0.mp c_73]; rfl, hs1, ot_p hs2, hy⟩ (Nat.le_refl _) (Nat.le_refl _) d_MO_other_82
      · exact absurd (nI_lt hk1 (by omega)) c_22
  · exact absurd (bI_0.mp c_5) (by rw [hasB_nI (by omega), decide_eq_true hiw]; decide)
set_option maxHeartbeats 4000000 in
set_option maxRecDepth 100000 in
theorem c_MO_other (i0 fr to0 : Nat) (pl : List Nat) (hi0 : i0 < 64) (hwl : wl i0 = pl.length) (hwp : ∀ j, j < pl.length → wp (i0 * 48 + j) = pl.getD j 0) (hwf : wf i0 = fr) (hwt : wt i0 = to0) (hpl : ∀ p ∈ pl, p < np) (hl48 : pl.length < 48) (hiw : i0 < wn) (k0 : Nat) (hk1 : k0 < pl.length) (hfr : fr < n) (hto : to0 < n) (hwn : wn < 64) (hne : ∀ j, j < np → ea j ≠ eb j) (hn : n ≤ 48) (hnp : np ≤ 96) (hk : ∀ j, kd j < 3) (hea : ∀ j, j < np → ea j < n) (heb : ∀ j, j < np → eb j < n) (hli : ∀ j, j < np → 1 ≤ li j ∧ li j ≤ 1000000000) : Mt l y_MO_other w_MO_other ({ frames := 4, cells := 0, slots := 0, locals := 104 }) g classes (tyL t) [.ref (b 0), .int (nI i0), .int (nI k0)] (mW b t n kd em br ii oo np ea eb li rn wp wl wf wt wn ct sT sP sa sb rest) (S := ((Nat → Bool) × (Nat → Bool)) × ((Nat → Nat) × (Nat → Nat) × (Nat → Nat) × (Nat → Nat) × (Nat → Nat)) × Option (List (Nat × Nat))) (fun v z => v = some (.int (if z.2.2.isSome = true then nI wn else -1)) ∧ (∀ x, x < n → z.1.1 x = shT kd br rn ea eb np x) ∧ (∀ p, p < np → z.1.2 p = (rn p || decide (p = (pl.getD k0 0)))) ∧ ((∃ w, z.2.2 = some w ∧ mFw n kd ii oo np ea eb li z.1.1 z.1.2 fr to0 w ∧ (∀ j, j < w.length → z.2.1.2.1 (wn * 48 + j) = (rPl w).getD j 0) ∧ (∀ x, (x < wn * 48 ∨ wn * 48 + 48 ≤ x) → z.2.1.2.1 x = wp x) ∧ z.2.1.2.2.1 = va_up wl wn w.length ∧ z.2.1.2.2.2.1 = va_up wf wn fr ∧ z.2.1.2.2.2.2 = va_up wt wn to0) ∨ (z.2.2 = none ∧ mNo n kd ii oo np ea eb li z.1.1 z.1.2 fr to0 ∧ z.2.1.2 = (wp, wl, wf, wt)))) (fun z => (mW b t n kd em br ii oo np ea eb li rn z.2.1.2.1 z.2.1.2.2.1 z.2.1.2.2.2.1 z.2.1.2.2.2.2 (if z.2.2.isSome = true then wn + 1 else wn) z.2.1.1 z.1.1 z.1.2 sa sb rest)) 0 0 := by
  refine Mt.of (cc := b_MO_other) (maxL := 3) (ret := (some .int)) (own := R_MO) (by decide) rfl rfl (Nat.le_of_ble_eq_true rfl) ?_
  intro p e s m args below meth c C0 hr hlk hin A hA hB ls hl
  have hl : lv_has ls 3 [(0, .ref (b 0)), (1, .int (nI i0)), (2, .int (nI k0))] := hl
  refine lv_aload_n C0.1 C0.2.1 d_MO_other_0 rfl (lv_at hl 0 rfl) ?_
  refine lv_iload_n C0.1 C0.2.1 d_MO_other_1 rfl (lv_at hl 1 rfl) ?_
  refine cR (As := [.int (nI i0)]) (rest := []) C0 (c_MO_isWay (nI i0) (by omega)) (q_MO_125 C0.2.2.2.2.1 rfl rfl ⟨Nat.le_of_ble_eq_true rfl, Nat.le_of_ble_eq_true rfl⟩) (ci := 5) (q0 := 0) rfl rfl rfl hB.1 hl.1 rfl rfl (Nat.le_of_ble_eq_true rfl) d_MO_other_2 ⟨Nat.zero_le _, Nat.zero_le _⟩ ?_
  refine W.eq (g2 := F0 m 5 ls [.int (bI (hasB wn (nI i0)))]) rfl ?_
  refine lv_if_ne (tgt := 11) C0.1 C0.2.1 d_MO_other_5 (by decide) (fun c_5 => ?_) (fun c_5 => ?_)
  · refine lv_iload_n C0.1 C0.2.1 d_MO_other_11 rfl (lv_at hl 2 rfl) ?_
    refine lv_if_lt (tgt := 25) C0.1 C0.2.1 d_MO_other_12 (by decide) (fun c_12 => ?_) (fun c_12 => ?_)
    · exact absurd c_12 (nI_pos (by omega))
    · refine lv_iload_n C0.1 C0.2.1 d_MO_other_15 rfl (lv_at hl 2 rfl) ?_
      refine lv_aload_n C0.1 C0.2.1 d_MO_other_16 rfl (lv_at hl 0 rfl) ?_
      refine gf_MO_42 C0 hB.1 0 rfl rfl d_MO_other_17 ?_
      refine lv_iload_n C0.1 C0.2.1 d_MO_other_20 rfl (lv_at hl 1 rfl) ?_
      refine ald_i C0 hB.1 11 0 rfl rfl (by omega) (by decide) d_MO_other_21 ?_
      refine ti (show nI (wl i0) = nI pl.length from by rw [hwl]) ?_
      refine lv_icmp_lt (tgt := 27) C0.1 C0.2.1 d_MO_other_22 (by decide) (fun c_22 => ?_) (fun c_22 => ?_)
      · have hpn := hpl _ (gD_mem hk1)
        refine lv_aload_n C0.1 C0.2.1 d_MO_other_27 rfl (lv_at hl 0 rfl) ?_
        refine cM (As := []) (rest := []) C0 (c_MO_shut hn hnp hk hea heb) (q_MO_113 C0.2.2.2.2.1 rfl rfl ⟨Nat.le_of_ble_eq_true rfl, Nat.le_of_ble_eq_true rfl⟩) (ci := 5) (q0 := 0) rfl rfl rfl hB hl.1 rfl rfl (Nat.le_of_ble_eq_true rfl) d_MO_other_28 ⟨Nat.zero_le _, Nat.zero_le _⟩ (fun v_28 u_28 H locs hp_28 hB => ?_)
        obtain ⟨s1, s2⟩ := u_28
        obtain ⟨rfl, hs1, hs2⟩ := hp_28
        have hB : wB g classes A s.heap (mW b t n kd em br ii oo np ea eb li rn wp wl wf wt wn ct s1 s2 sa sb rest) H locs := hB
        refine W.eq (g2 := F0 m 31 ls []) rfl ?_
        refine lv_aload_n C0.1 C0.2.1 d_MO_other_31 rfl (lv_at hl 0 rfl) ?_
        refine gf_MO_57 C0 hB.1 0 rfl rfl d_MO_other_32 ?_
        refine lv_aload_n C0.1 C0.2.1 d_MO_other_35 rfl (lv_at hl 0 rfl) ?_
        refine gf_MO_39 C0 hB.1 0 rfl rfl d_MO_other_36 ?_
        refine lv_iload_n C0.1 C0.2.1 d_MO_other_39 rfl (lv_at hl 1 rfl) ?_
        refine lv_bipush (v := nI 48) C0.1 C0.2.1 d_MO_other_40 (by decide) ?_
        refine lv_imul C0.1 C0.2.1 d_MO_other_42 ?_
        refine ti (show (nI i0) * (nI 48) = nI (i0 * 48) from pk_mul _ _) ?_
        refine lv_iload_n C0.1 C0.2.1 d_MO_other_43 rfl (lv_at hl 2 rfl) ?_
        refine lv_iadd C0.1 C0.2.1 d_MO_other_44 ?_
        refine ti (show (nI (i0 * 48)) + (nI k0) = nI (i0 * 48 + k0) from nI_add _ _) ?_
        refine ald_i C0 hB.1 10 0 rfl rfl (by omega) (by decide) d_MO_other_45 ?_
        refine ti (show nI (wp (i0 * 48 + k0)) = nI (pl.getD k0 0) from by rw [hwp k0 hk1]) ?_
        refine lv_iconst (v := bI true) C0.1 C0.2.1 d_MO_other_46 (by decide) ?_
        refine ast_z (w' := (mW b t n kd em br ii oo np ea eb li rn wp wl wf wt wn ct s1 (va_up s2 (pl.getD k0 0) true) sa sb rest)) C0 hB 16 1 rfl rfl (by omega) (by decide) up_bI rfl d_MO_other_47 (fun H locs hB => ?_)
        refine lv_aload_n C0.1 C0.2.1 d_MO_other_48 rfl (lv_at hl 0 rfl) ?_
        refine gf_MO_116 C0 hB.1 0 rfl rfl d_MO_other_49 ?_
        refine lv_bipush (v := nI 64) C0.1 C0.2.1 d_MO_other_52 (by decide) ?_
        refine lv_icmp_ne (tgt := 83) C0.1 C0.2.1 d_MO_other_54 (by decide) (fun c_54 => ?_) (fun c_54 => ?_)
        · refine lv_aload_n C0.1 C0.2.1 d_MO_other_83 rfl (lv_at hl 0 rfl) ?_
          refine lv_aload_n C0.1 C0.2.1 d_MO_other_84 rfl (lv_at hl 0 rfl) ?_
          refine gf_MO_45 C0 hB.1 0 rfl rfl d_MO_other_85 ?_
          refine lv_iload_n C0.1 C0.2.1 d_MO_other_88 rfl (lv_at hl 1 rfl) ?_
          refine ald_i C0 hB.1 12 0 rfl rfl (by omega) (by decide) d_MO_other_89 ?_
          refine ti (show nI (wf i0) = nI fr from by rw [hwf]) ?_
          refine lv_aload_n C0.1 C0.2.1 d_MO_other_90 rfl (lv_at hl 0 rfl) ?_
          refine gf_MO_48 C0 hB.1 0 rfl rfl d_MO_other_91 ?_
          refine lv_iload_n C0.1 C0.2.1 d_MO_other_94 rfl (lv_at hl 1 rfl) ?_
          refine ald_i C0 hB.1 13 0 rfl rfl (by omega) (by decide) d_MO_other_95 ?_
          refine ti (show nI (wt i0) = nI to0 from by rw [hwt]) ?_
          refine lv_aload_n C0.1 C0.2.1 d_MO_other_96 rfl (lv_at hl 0 rfl) ?_
          refine gf_MO_116 C0 hB.1 0 rfl rfl d_MO_other_97 ?_
          refine cM (As := [.int (nI fr), .int (nI to0), .int (nI wn)]) (rest := []) C0 (c_MO_walk fr to0 wn (by omega) (by omega) (by omega) hne hn hnp hk hea heb hli) (q_MO_122 C0.2.2.2.2.1 rfl rfl ⟨Nat.le_of_ble_eq_true rfl, Nat.le_of_ble_eq_true rfl⟩) (ci := 5) (q0 := 0) rfl rfl rfl hB hl.1 rfl rfl (Nat.le_of_ble_eq_true rfl) d_MO_other_100 ⟨Nat.zero_le _, Nat.zero_le _⟩ (fun v_100 u_100 H locs hp_100 hB => ?_)
          obtain ⟨⟨d1, wp1, wl1, wf1, wt1⟩, ow1⟩ := u_100
          obtain ⟨rfl, hk1⟩ := hp_100
          have hB : wB g classes A s.heap (mW b t n kd em br ii oo np ea eb li rn wp1 wl1 wf1 wt1 wn d1 s1 (va_up s2 (pl.getD k0 0) true) sa sb rest) H locs := hB
          refine W.eq (g2 := F0 m 103 ls [.int (bI ow1.isSome)]) rfl ?_
          refine lv_if_ne (tgt := 108) C0.1 C0.2.1 d_MO_other_103 (by decide) (fun c_103 => ?_) (fun c_103 => ?_)
          · refine lv_aload_n C0.1 C0.2.1 d_MO_other_108 rfl (lv_at hl 0 rfl) ?_
            refine lv_dup C0.1 C0.2.1 d_MO_other_109 rfl ?_
            refine gf_MO_116 C0 hB.1 0 rfl rfl d_MO_other_110 ?_
            refine lv_iconst (v := nI 1) C0.1 C0.2.1 d_MO_other_113 (by decide) ?_
            refine lv_iadd C0.1 C0.2.1 d_MO_other_114 ?_
            refine ti (show (nI wn) + (nI 1) = nI (wn + 1) from nI_add _ _) ?_
            refine pf_MO_116 (w' := (mW b t n kd em br ii oo np ea eb li rn wp1 wl1 wf1 wt1 (wn + 1) d1 s1 (va_up s2 (pl.getD k0 0) true) sa sb rest)) C0 hB 0 rfl (Nat.le_of_ble_eq_true rfl) rfl rfl rfl d_MO_other_115 (fun H locs hB => ?_)
            refine lv_aload_n C0.1 C0.2.1 d_MO_other_118 rfl (lv_at hl 0 rfl) ?_
            refine gf_MO_116 C0 hB.1 0 rfl rfl d_MO_other_119 ?_
            refine lv_iconst (v := nI 1) C0.1 C0.2.1 d_MO_other_122 (by decide) ?_
            refine lv_isub C0.1 C0.2.1 d_MO_other_123 ?_
            refine ti (show (nI (wn + 1)) - (nI 1) = nI wn from (pk_sub (by omega) : nI (wn + 1) - nI 1 = nI (wn + 1 - 1))) ?_
            exact eM_i C0 hr hlk ((s1, (va_up s2 (pl.getD k0 0) true)), (d1, wp1, wl1, wf1, wt1), ow1) (show wB g classes A s.heap (mW b t n kd em br ii oo np ea eb li rn wp1 wl1 wf1 wt1 (if ow1.isSome = true then wn + 1 else wn) d1 s1 (va_up s2 (pl.getD k0 0) true) sa sb rest) H locs by rw [show (if ow1.isSome = true then wn + 1 else wn) = wn + 1 by rw [bI_n0.mp c_103]; rfl]; exact hB) ⟨by rw [bI_n0.mp c_103]; rfl, hs1, ot_p hs2, hk1⟩ (Nat.le_refl _) (Nat.le_refl _) d_MO_other_124
          · refine lv_iconst (v := -1) C0.1 C0.2.1 d_MO_other_106 (by decide) ?_
            exact eM_i C0 hr hlk ((s1, (va_up s2 (pl.getD k0 0) true)), (d1, wp1, wl1, wf1, wt1), ow1) (show wB g classes A s.heap (mW b t n kd em br ii oo np ea eb li rn wp1 wl1 wf1 wt1 (if ow1.isSome = true then wn + 1 else wn) d1 s1 (va_up s2 (pl.getD k0 0) true) sa sb rest) H locs by rw [show (if ow1.isSome = true then wn + 1 else wn) = wn by rw [bI_0.mp c_103]; rfl]; exact hB) ⟨by rw [bI_0.mp c_103]; rfl, hs1, ot_p hs2, hk1⟩ (Nat.le_refl _) (Nat.le_refl _) d_MO_other_107
        · exact absurd ((nI_eq (by omega) (by decide)).mp c_54) (by omega)
      · exact absurd (nI_lt hk1 (by omega)) c_22
  · exact absurd (bI_0.mp c_5) (by rw [hasB_nI (by omega), decide_eq_true hiw]; decide)
end MODEL6

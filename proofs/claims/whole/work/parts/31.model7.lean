theorem rPl_len (w : List (Nat × Nat)) : (rPl w).length = w.length := by simp [rPl]
theorem rNd_len (v : Nat) (w : List (Nat × Nat)) : (rNd v w).length = w.length + 1 := by simp [rNd]
theorem mFw_ok {n : Nat} {kd : Nat → Nat} {ii oo : Nat → Int32} {np : Nat} {ea eb li : Nat → Nat} {sT sP : Nat → Bool} {u0 e0 : Nat} {w : List (Nat × Nat)} (h : mFw n kd ii oo np ea eb li sT sP u0 e0 w) (hu : u0 < n) (hea : ∀ j, j < np → ea j < n) (heb : ∀ j, j < np → eb j < n) (hli : ∀ j, j < np → 1 ≤ li j ∧ li j ≤ 1000000000) : (∀ p ∈ rPl w, p < np) ∧ (∀ v ∈ rNd u0 w, v < n) ∧ (rPl w).length < 48 ∧ (rNd u0 w).length = (rPl w).length + 1 ∧ ∀ j, j < (rPl w).length → ((rNd u0 w).getD j 0 = ea ((rPl w).getD j 0) ∧ (rNd u0 w).getD (j + 1) 0 = eb ((rPl w).getD j 0)) ∨ ((rNd u0 w).getD j 0 = eb ((rPl w).getD j 0) ∧ (rNd u0 w).getD (j + 1) 0 = ea ((rPl w).getD j 0)) := by
  obtain ⟨h1, h2, c, h3, h4, h5, h6⟩ := h
  have at_ := fun j hj => rFw_at w u0 j h6 hj
  refine ⟨fun p hp => ?_, fun v hv => ((rFw_nd hea heb hli w u0 hu h6).2 v hv).1, by rw [rPl_len]; exact h2, by rw [rPl_len, rNd_len], fun j hj => ?_⟩
  · obtain ⟨j, hj, e⟩ := List.getElem_of_mem hp
    have := (at_ j (by rw [rPl_len] at hj; exact hj)).2.1.1
    rw [show (rPl w).getD j 0 = p by simp [List.getD, hj, e]] at this
    exact this
  · exact (at_ j (by rw [rPl_len] at hj; exact hj)).2.1.2.1
theorem tk_0 {kd : Nat → Nat} {s1 : Nat → Bool} {u0 : Nat} {w : List (Nat × Nat)} (h : kd u0 = 0) : ∀ v, s1 v = (s1 v || decide (v ∈ (rNd u0 w).take (0 + 1) ∧ kd v ≠ 0)) := by
  intro v
  rw [decide_eq_false, Bool.or_false]
  rintro ⟨q, r⟩
  have e : v = u0 := by simpa [rNd] using q
  rw [e] at r
  exact r h
/-- what find found, and where it wrote it -/
def FindP (n : Nat) (kd : Nat → Nat) (ii oo : Nat → Int32) (np : Nat) (ea eb li : Nat → Nat) (u0 e0 u1 e1 a0 : Nat) (wp wl wf wt : Nat → Nat) (s1 s2 s3 s4 : Nat → Bool) (wp' wl' wf' wt' : Nat → Nat) (x y : Option (List (Nat × Nat))) : Prop :=
  ((x = none ∧ y = none ∧ mNo n kd ii oo np ea eb li s1 s2 u0 e0) ∨ (∃ w, x = some w ∧ mFw n kd ii oo np ea eb li s1 s2 u0 e0 w ∧ (∀ v, s3 v = (s1 v || decide (v ∈ rNd u0 w ∧ kd v ≠ 0))) ∧ (∀ p, s4 p = (s2 p || decide (p ∈ rPl w))) ∧ (∀ j, j < w.length → wp' (a0 * 48 + j) = (rPl w).getD j 0) ∧ wl' a0 = w.length ∧ wf' a0 = u0 ∧ wt' a0 = e0 ∧
    ((y = none ∧ mNo n kd ii oo np ea eb li s3 s4 u1 e1) ∨ ∃ w2, y = some w2 ∧ mFw n kd ii oo np ea eb li s3 s4 u1 e1 w2 ∧ (∀ j, j < w2.length → wp' ((a0 + 1) * 48 + j) = (rPl w2).getD j 0) ∧ wl' (a0 + 1) = w2.length ∧ wf' (a0 + 1) = u1 ∧ wt' (a0 + 1) = e1))) ∧
  (∀ z, (z < a0 * 48 ∨ a0 * 48 + 96 ≤ z) → wp' z = wp z) ∧ ∀ i, i ≠ a0 → i ≠ a0 + 1 → wl' i = wl i ∧ wf' i = wf i ∧ wt' i = wt i
section MODEL7
variable {l : Launch} {g : va_G} {t : Nat → ClassId} {b : Nat → Nat} {n : Nat} {kd : Nat → Nat} {em : Nat → Bool} {br : Nat → Bool} {ii : Nat → Int32} {oo : Nat → Int32} {np : Nat} {ea : Nat → Nat} {eb : Nat → Nat} {li : Nat → Nat} {rn : Nat → Bool} {wp : Nat → Nat} {wl : Nat → Nat} {wf : Nat → Nat} {wt : Nat → Nat} {wn : Nat} {ct : Nat → Nat} {sT : Nat → Bool} {sP : Nat → Bool} {sa : Nat → Nat} {sb : Nat → Nat} {rest : va_W}
set_option maxHeartbeats 4000000 in
set_option maxRecDepth 100000 in
theorem c_MO_find (u0 e0 u1 e1 a0 : Nat) (hu0 : u0 < n) (he0 : e0 < n) (hu1 : u1 < n) (he1 : e1 < n) (ha0 : a0 + 1 < 64) (hku : kd u0 = 0) (hne : ∀ j, j < np → ea j ≠ eb j) (hn : n ≤ 48) (hnp : np ≤ 96) (hk : ∀ j, kd j < 3) (hea : ∀ j, j < np → ea j < n) (heb : ∀ j, j < np → eb j < n) (hli : ∀ j, j < np → 1 ≤ li j ∧ li j ≤ 1000000000) : Mt l y_MO_find w_MO_find ({ frames := 4, cells := 0, slots := 0, locals := 104 }) g classes (tyL t) [.ref (b 0), .int (nI u0), .int (nI e0), .int (nI u1), .int (nI e1), .int (nI a0)] (mW b t n kd em br ii oo np ea eb li rn wp wl wf wt wn ct sT sP sa sb rest) (S := ((Nat → Bool) × (Nat → Bool)) × ((Nat → Bool) × (Nat → Bool)) × ((Nat → Nat) × (Nat → Nat) × (Nat → Nat) × (Nat → Nat) × (Nat → Nat)) × Option (List (Nat × Nat)) × Option (List (Nat × Nat))) (fun v z => v = some (.int (bI (z.2.2.2.1.isSome && z.2.2.2.2.isSome))) ∧ (∀ x, x < n → z.1.1 x = shT kd br rn ea eb np x) ∧ (∀ p, p < np → z.1.2 p = rn p) ∧ FindP n kd ii oo np ea eb li u0 e0 u1 e1 a0 wp wl wf wt z.1.1 z.1.2 z.2.1.1 z.2.1.2 z.2.2.1.2.1 z.2.2.1.2.2.1 z.2.2.1.2.2.2.1 z.2.2.1.2.2.2.2 z.2.2.2.1 z.2.2.2.2) (fun z => (mW b t n kd em br ii oo np ea eb li rn z.2.2.1.2.1 z.2.2.1.2.2.1 z.2.2.1.2.2.2.1 z.2.2.1.2.2.2.2 wn z.2.2.1.1 z.2.1.1 z.2.1.2 sa sb rest)) 0 0 := by
  refine Mt.of (cc := b_MO_find) (maxL := 8) (ret := (some .boolean)) (own := R_MO) (by decide) rfl rfl (Nat.le_of_ble_eq_true rfl) ?_
  intro p e s m args below meth c C0 hr hlk hin A hA hB ls hl
  have hl : lv_has ls 8 [(0, .ref (b 0)), (1, .int (nI u0)), (2, .int (nI e0)), (3, .int (nI u1)), (4, .int (nI e1)), (5, .int (nI a0))] := hl
  refine lv_aload_n C0.1 C0.2.1 d_MO_find_0 rfl (lv_at hl 0 rfl) ?_
  refine cM (As := []) (rest := []) C0 (c_MO_shut hn hnp hk hea heb) (q_MO_113 C0.2.2.2.2.1 rfl rfl ⟨Nat.le_of_ble_eq_true rfl, Nat.le_of_ble_eq_true rfl⟩) (ci := 5) (q0 := 0) rfl rfl rfl hB hl.1 rfl rfl (Nat.le_of_ble_eq_true rfl) d_MO_find_1 ⟨Nat.zero_le _, Nat.zero_le _⟩ (fun v_1 u_1 H locs hp_1 hB => ?_)
  obtain ⟨s1, s2⟩ := u_1
  obtain ⟨rfl, hs1, hs2⟩ := hp_1
  have hB : wB g classes A s.heap (mW b t n kd em br ii oo np ea eb li rn wp wl wf wt wn ct s1 s2 sa sb rest) H locs := hB
  refine W.eq (g2 := F0 m 4 ls []) rfl ?_
  refine lv_aload_n C0.1 C0.2.1 d_MO_find_4 rfl (lv_at hl 0 rfl) ?_
  refine lv_iload_n C0.1 C0.2.1 d_MO_find_5 rfl (lv_at hl 1 rfl) ?_
  refine lv_iload_n C0.1 C0.2.1 d_MO_find_6 rfl (lv_at hl 2 rfl) ?_
  refine lv_iload C0.1 C0.2.1 d_MO_find_7 (lv_at hl 5 rfl) ?_
  refine cM (As := [.int (nI u0), .int (nI e0), .int (nI a0)]) (rest := []) C0 (c_MO_walk u0 e0 a0 (by omega) (by omega) (by omega) hne hn hnp hk hea heb hli) (q_MO_122 C0.2.2.2.2.1 rfl rfl ⟨Nat.le_of_ble_eq_true rfl, Nat.le_of_ble_eq_true rfl⟩) (ci := 5) (q0 := 0) rfl rfl rfl hB hl.1 rfl rfl (Nat.le_of_ble_eq_true rfl) d_MO_find_9 ⟨Nat.zero_le _, Nat.zero_le _⟩ (fun v_9 u_9 H locs hp_9 hB => ?_)
  obtain ⟨⟨d1, wp1, wl1, wf1, wt1⟩, ow1⟩ := u_9
  obtain ⟨rfl, hk1⟩ := hp_9
  have hB : wB g classes A s.heap (mW b t n kd em br ii oo np ea eb li rn wp1 wl1 wf1 wt1 wn d1 s1 s2 sa sb rest) H locs := hB
  refine W.eq (g2 := F0 m 12 ls [.int (bI ow1.isSome)]) rfl ?_
  refine lv_if_ne (tgt := 17) C0.1 C0.2.1 d_MO_find_12 (by decide) (fun c_12 => ?_) (fun c_12 => ?_)
  · dsimp only at hk1
    rcases hk1 with ⟨w1, hw1, hm1, g1, g2, g3, g4, g5⟩ | ⟨hw1, -, -⟩
    case inr => exact absurd (by rw [hw1]; rfl) c_12
    obtain ⟨m1, m2, m3, m4, m5⟩ := mFw_ok hm1 hu0 hea heb hli
    have l1 := rPl_len w1
    have q1 : wl1 a0 = (rPl w1).length := by rw [g3, va_up_self, rPl_len]
    have q2 : ∀ j, j < (rPl w1).length → wp1 (a0 * 48 + j) = (rPl w1).getD j 0 := fun j hj => g1 j (by rw [rPl_len] at hj; exact hj)
    have q3 : wf1 a0 = (rNd u0 w1).getD 0 0 := by rw [g4, va_up_self]; rfl
    refine lv_iconst (v := nI 0) C0.1 C0.2.1 d_MO_find_17 (by decide) ?_
    refine lv_istore (lv' := [(6, .int (nI 0)), (0, .ref (b 0)), (1, .int (nI u0)), (2, .int (nI e0)), (3, .int (nI u1)), (4, .int (nI e1)), (5, .int (nI a0))]) C0.1 C0.2.1 d_MO_find_18 hl (by decide) rfl (fun ls hl => ?_)
    refine wlM (σ := Nat × (Nat → Bool) × (Nat → Bool)) (head := 20) (fun z_ => (rPl w1).length - z_.1) (fun z_ => z_.1 ≤ (rPl w1).length ∧ (∀ v, z_.2.1 v = (s1 v || decide (v ∈ (rNd u0 w1).take (z_.1 + 1) ∧ kd v ≠ 0))) ∧ ∀ p, z_.2.2 p = (s2 p || decide (p ∈ (rPl w1).take z_.1))) (fun z_ => (mW b t n kd em br ii oo np ea eb li rn wp1 wl1 wf1 wt1 wn d1 z_.2.1 z_.2.2 sa sb rest)) (fun z_ => [(0, .ref (b 0)), (1, .int (nI u0)), (2, .int (nI e0)), (3, .int (nI u1)), (4, .int (nI e1)), (5, .int (nI a0)), (6, .int (nI z_.1))]) ?_ (0, s1, s2) (show 0 ≤ (rPl w1).length ∧ (∀ v, s1 v = (s1 v || decide (v ∈ (rNd u0 w1).take (0 + 1) ∧ kd v ≠ 0))) ∧ ∀ p, s2 p = (s2 p || decide (p ∈ (rPl w1).take 0)) from ⟨Nat.zero_le _, tk_0 hku, fun p => by simp⟩) hB (lv_sub hl [1, 2, 3, 4, 5, 6, 0] rfl)
    rintro ⟨j, f, h⟩ hi ih_20 H locs ls hB hl
    have hi : j ≤ (rPl w1).length ∧ (∀ v, f v = (s1 v || decide (v ∈ (rNd u0 w1).take (j + 1) ∧ kd v ≠ 0))) ∧ ∀ p, h p = (s2 p || decide (p ∈ (rPl w1).take j)) := hi
    obtain ⟨hi1, hi2, hi3⟩ := hi
    have hl : lv_has ls 8 [(0, .ref (b 0)), (1, .int (nI u0)), (2, .int (nI e0)), (3, .int (nI u1)), (4, .int (nI e1)), (5, .int (nI a0)), (6, .int (nI j))] := hl
    have hB : wB g classes A s.heap (mW b t n kd em br ii oo np ea eb li rn wp1 wl1 wf1 wt1 wn d1 f h sa sb rest) H locs := hB
    refine lv_iload C0.1 C0.2.1 d_MO_find_20 (lv_at hl 6 rfl) ?_
    refine lv_aload_n C0.1 C0.2.1 d_MO_find_22 rfl (lv_at hl 0 rfl) ?_
    refine gf_MO_42 C0 hB.1 0 rfl rfl d_MO_find_23 ?_
    refine lv_iload C0.1 C0.2.1 d_MO_find_26 (lv_at hl 5 rfl) ?_
    refine ald_i C0 hB.1 11 0 rfl rfl (by omega) (by decide) d_MO_find_28 ?_
    refine ti (show nI (wl1 a0) = nI (rPl w1).length from by rw [q1]) ?_
    refine lv_icmp_ge (tgt := 92) C0.1 C0.2.1 d_MO_find_29 (by decide) (fun c_29 => ?_) (fun c_29 => ?_)
    · have hj : j = (rPl w1).length := by have := (nI_leI (by omega) (by omega)).mp c_29; omega
      refine lv_aload_n C0.1 C0.2.1 d_MO_find_92 rfl (lv_at hl 0 rfl) ?_
      refine lv_iload_n C0.1 C0.2.1 d_MO_find_93 rfl (lv_at hl 3 rfl) ?_
      refine lv_iload C0.1 C0.2.1 d_MO_find_94 (lv_at hl 4 rfl) ?_
      refine lv_iload C0.1 C0.2.1 d_MO_find_96 (lv_at hl 5 rfl) ?_
      refine lv_iconst (v := nI 1) C0.1 C0.2.1 d_MO_find_98 (by decide) ?_
      refine lv_iadd C0.1 C0.2.1 d_MO_find_99 ?_
      refine ti (show (nI a0) + (nI 1) = nI (a0 + 1) from nI_add _ _) ?_
      refine cM (As := [.int (nI u1), .int (nI e1), .int (nI (a0 + 1))]) (rest := []) C0 (c_MO_walk u1 e1 (a0 + 1) (by omega) (by omega) (by omega) hne hn hnp hk hea heb hli) (q_MO_122 C0.2.2.2.2.1 rfl rfl ⟨Nat.le_of_ble_eq_true rfl, Nat.le_of_ble_eq_true rfl⟩) (ci := 5) (q0 := 0) rfl rfl rfl hB hl.1 rfl rfl (Nat.le_of_ble_eq_true rfl) d_MO_find_100 ⟨Nat.zero_le _, Nat.zero_le _⟩ (fun v_100 u_100 H locs hp_100 hB => ?_)
      obtain ⟨⟨d2, wp2, wl2, wf2, wt2⟩, ow2⟩ := u_100
      obtain ⟨rfl, hk2⟩ := hp_100
      have hB : wB g classes A s.heap (mW b t n kd em br ii oo np ea eb li rn wp2 wl2 wf2 wt2 wn d2 f h sa sb rest) H locs := hB
      refine W.eq (g2 := F0 m 103 ls [.int (bI ow2.isSome)]) rfl ?_
      have hi4 : ∀ v, f v = (s1 v || decide (v ∈ (rNd u0 w1) ∧ kd v ≠ 0)) := fun v => by rw [hi2 v, hj, ← m4, List.take_length]
      have hi5 : ∀ p, h p = (s2 p || decide (p ∈ (rPl w1))) := fun p => by rw [hi3 p, hj, List.take_length]
      dsimp only at hk2
      rcases hk2 with ⟨w2, hw2, hm2, k1, k2, k3, k4, k5⟩ | ⟨hw2, hm2, hs5⟩
      · have hF : FindP n kd ii oo np ea eb li u0 e0 u1 e1 a0 wp wl wf wt s1 s2 f h wp2 wl2 wf2 wt2 (some w1) ow2 := by
          refine ⟨Or.inr ⟨w1, rfl, hm1, hi4, hi5, fun j hj => by rw [k2 _ (by omega)]; exact g1 j hj, by rw [k3, va_up_ne _ _ (by omega), g3, va_up_self], by rw [k4, va_up_ne _ _ (by omega), g4, va_up_self], by rw [k5, va_up_ne _ _ (by omega), g5, va_up_self], Or.inr ⟨w2, hw2, hm2, k1, by rw [k3, va_up_self], by rw [k4, va_up_self], by rw [k5, va_up_self]⟩⟩, fun z hz => by rw [k2 _ (by omega), g2 _ (by omega)], fun i h1 h2 => ?_⟩
          rw [k3, k4, k5, g3, g4, g5]
          simp only [va_up_ne _ _ h1, va_up_ne _ _ h2]
          exact ⟨trivial, trivial, trivial⟩
        exact eM_z C0 hr hlk (b := ((some w1).isSome && ow2.isSome)) ((s1, s2), (f, h), (d2, wp2, wl2, wf2, wt2), some w1, ow2) (by simp) hB ⟨rfl, hs1, hs2, hF⟩ (Nat.le_refl _) (Nat.le_refl _) d_MO_find_103
      · cases hs5
        have hF : FindP n kd ii oo np ea eb li u0 e0 u1 e1 a0 wp wl wf wt s1 s2 f h wp1 wl1 wf1 wt1 (some w1) ow2 := by
          refine ⟨Or.inr ⟨w1, rfl, hm1, hi4, hi5, g1, by rw [g3, va_up_self], by rw [g4, va_up_self], by rw [g5, va_up_self], Or.inl ⟨hw2, hm2⟩⟩, fun z hz => g2 _ (by omega), fun i h1 h2 => ?_⟩
          rw [g3, g4, g5]
          simp only [va_up_ne _ _ h1]
          exact ⟨trivial, trivial, trivial⟩
        exact eM_z C0 hr hlk (b := ((some w1).isSome && ow2.isSome)) ((s1, s2), (f, h), (d2, wp1, wl1, wf1, wt1), some w1, ow2) (by simp) hB ⟨rfl, hs1, hs2, hF⟩ (Nat.le_refl _) (Nat.le_refl _) d_MO_find_103
    · have hj : j < (rPl w1).length := (nI_nle' (by omega) (by omega)).mp c_29
      have hpn := m1 _ (gD_mem hj)
      have hvn := m2 _ (gD_mem (show j + 1 < (rNd u0 w1).length by omega))
      refine lv_aload_n C0.1 C0.2.1 d_MO_find_32 rfl (lv_at hl 0 rfl) ?_
      refine lv_iload C0.1 C0.2.1 d_MO_find_33 (lv_at hl 5 rfl) ?_
      refine lv_iload C0.1 C0.2.1 d_MO_find_35 (lv_at hl 6 rfl) ?_
      refine cR (As := [.int (nI a0), .int (nI j)]) (rest := []) C0 (c_MO_behind a0 (rPl w1) (rNd u0 w1) (by omega) q1 q2 q3 m1 m2 m4 m3 m5 hne hn hnp j hj) (q_MO_128 C0.2.2.2.2.1 rfl rfl ⟨Nat.le_of_ble_eq_true rfl, Nat.le_of_ble_eq_true rfl⟩) (ci := 5) (q0 := 0) rfl rfl rfl hB.1 hl.1 rfl rfl (Nat.le_of_ble_eq_true rfl) d_MO_find_37 ⟨Nat.zero_le _, Nat.zero_le _⟩ ?_
      refine W.eq (g2 := F0 m 40 ls [.int (nI ((rNd u0 w1).getD (j + 1) 0))]) rfl ?_
      refine lv_istore (lv' := [(7, .int (nI ((rNd u0 w1).getD (j + 1) 0))), (0, .ref (b 0)), (1, .int (nI u0)), (2, .int (nI e0)), (3, .int (nI u1)), (4, .int (nI e1)), (5, .int (nI a0)), (6, .int (nI j))]) C0.1 C0.2.1 d_MO_find_40 hl (by decide) rfl (fun ls hl => ?_)
      refine lv_aload_n C0.1 C0.2.1 d_MO_find_42 rfl (lv_at hl 1 rfl) ?_
      refine gf_MO_57 C0 hB.1 0 rfl rfl d_MO_find_43 ?_
      refine lv_aload_n C0.1 C0.2.1 d_MO_find_46 rfl (lv_at hl 1 rfl) ?_
      refine gf_MO_39 C0 hB.1 0 rfl rfl d_MO_find_47 ?_
      refine lv_iload C0.1 C0.2.1 d_MO_find_50 (lv_at hl 6 rfl) ?_
      refine lv_bipush (v := nI 48) C0.1 C0.2.1 d_MO_find_52 (by decide) ?_
      refine lv_imul C0.1 C0.2.1 d_MO_find_54 ?_
      refine ti (show (nI a0) * (nI 48) = nI (a0 * 48) from pk_mul _ _) ?_
      refine lv_iload C0.1 C0.2.1 d_MO_find_55 (lv_at hl 7 rfl) ?_
      refine lv_iadd C0.1 C0.2.1 d_MO_find_57 ?_
      refine ti (show (nI (a0 * 48)) + (nI j) = nI (a0 * 48 + j) from nI_add _ _) ?_
      refine ald_i C0 hB.1 10 0 rfl rfl (by omega) (by decide) d_MO_find_58 ?_
      refine ti (show nI (wp1 (a0 * 48 + j)) = nI ((rPl w1).getD j 0) from by rw [q2 j hj]) ?_
      refine lv_iconst (v := bI true) C0.1 C0.2.1 d_MO_find_59 (by decide) ?_
      refine ast_z (w' := (mW b t n kd em br ii oo np ea eb li rn wp1 wl1 wf1 wt1 wn d1 f (va_up h ((rPl w1).getD j 0) true) sa sb rest)) C0 hB 16 1 rfl rfl (by omega) (by decide) up_bI rfl d_MO_find_60 (fun H locs hB => ?_)
      refine lv_aload_n C0.1 C0.2.1 d_MO_find_61 rfl (lv_at hl 1 rfl) ?_
      refine gf_MO_54 C0 hB.1 0 rfl rfl d_MO_find_62 ?_
      refine lv_iload C0.1 C0.2.1 d_MO_find_65 (lv_at hl 0 rfl) ?_
      refine lv_dup2_11 C0.1 C0.2.1 d_MO_find_67 rfl rfl ?_
      refine ald_z C0 hB.1 15 1 rfl rfl (by omega) (by decide) d_MO_find_68 ?_
      refine wcut (g2 := F0 m 84 ls [.int (bI (decide (kd ((rNd u0 w1).getD (j + 1) 0) ≠ 0))), .int (bI (f ((rNd u0 w1).getD (j + 1) 0))), .int (nI ((rNd u0 w1).getD (j + 1) 0)), .ref (b 15)]) ?_ (fun T84 => ?_)
      · refine lv_ior C0.1 C0.2.1 d_MO_find_84 ?_
        refine ti (show (bI (f ((rNd u0 w1).getD (j + 1) 0))) ||| (bI (decide (kd ((rNd u0 w1).getD (j + 1) 0) ≠ 0))) = bI (f ((rNd u0 w1).getD (j + 1) 0) || decide (kd ((rNd u0 w1).getD (j + 1) 0) ≠ 0)) from bI_or) ?_
        refine ast_z (w' := (mW b t n kd em br ii oo np ea eb li rn wp1 wl1 wf1 wt1 wn d1 (va_up f ((rNd u0 w1).getD (j + 1) 0) (f ((rNd u0 w1).getD (j + 1) 0) || decide (kd ((rNd u0 w1).getD (j + 1) 0) ≠ 0))) (va_up h ((rPl w1).getD j 0) true) sa sb rest)) C0 hB 15 1 rfl rfl (by omega) (by decide) up_bI rfl d_MO_find_85 (fun H locs hB => ?_)
        refine lv_iinc (v := nI (j + 1)) (lv' := [(6, .int (nI (j + 1))), (7, .int (nI ((rNd u0 w1).getD (j + 1) 0))), (0, .ref (b 0)), (1, .int (nI u0)), (2, .int (nI e0)), (3, .int (nI u1)), (4, .int (nI e1)), (5, .int (nI a0))]) C0.1 C0.2.1 d_MO_find_86 hl (k := 7) rfl (inc1 _) (by decide) rfl (fun ls hl => ?_)
        refine lv_goto (tgt := 20) C0.1 C0.2.1 d_MO_find_89 (by decide) ?_
        exact ih_20 ((j + 1), (va_up f ((rNd u0 w1).getD (j + 1) 0) (f ((rNd u0 w1).getD (j + 1) 0) || decide (kd ((rNd u0 w1).getD (j + 1) 0) ≠ 0))), (va_up h ((rPl w1).getD j 0) true)) (show (j + 1) ≤ (rPl w1).length ∧ (∀ v, (va_up f ((rNd u0 w1).getD (j + 1) 0) (f ((rNd u0 w1).getD (j + 1) 0) || decide (kd ((rNd u0 w1).getD (j + 1) 0) ≠ 0))) v = (s1 v || decide (v ∈ (rNd u0 w1).take ((j + 1) + 1) ∧ kd v ≠ 0))) ∧ ∀ p, (va_up h ((rPl w1).getD j 0) true) p = (s2 p || decide (p ∈ (rPl w1).take (j + 1))) from ⟨by omega, sw_t (by omega) hi2 (fun x => upor), sw_p hj hi3⟩) (show (rPl w1).length - (j + 1) < (rPl w1).length - j from by omega) H locs ls hB (lv_sub hl [2, 3, 4, 5, 6, 7, 0] rfl)
      · refine lv_aload_n C0.1 C0.2.1 d_MO_find_69 rfl (lv_at hl 1 rfl) ?_
        refine gf_MO_9 C0 hB.1 0 rfl rfl d_MO_find_70 ?_
        refine lv_iload C0.1 C0.2.1 d_MO_find_73 (lv_at hl 0 rfl) ?_
        refine ald_i C0 hB.1 1 0 rfl rfl (by omega) (by decide) d_MO_find_75 ?_
        refine lv_if_eq (tgt := 83) C0.1 C0.2.1 d_MO_find_76 (by decide) (fun c_76 => ?_) (fun c_76 => ?_)
        · refine lv_iconst (v := nI 0) C0.1 C0.2.1 d_MO_find_83 (by decide) ?_
          exact ti (show nI 0 = bI (decide (kd ((rNd u0 w1).getD (j + 1) 0) ≠ 0)) from by rw [decide_eq_false (fun q => q ((nI_eq (by have := hk ((rNd u0 w1).getD (j + 1) 0); omega) (by decide)).mp c_76))]; rfl) T84
        · refine lv_iconst (v := nI 1) C0.1 C0.2.1 d_MO_find_79 (by decide) ?_
          refine lv_goto (tgt := 84) C0.1 C0.2.1 d_MO_find_80 (by decide) ?_
          exact ti (show nI 1 = bI (decide (kd ((rNd u0 w1).getD (j + 1) 0) ≠ 0)) from by rw [decide_eq_true (show kd ((rNd u0 w1).getD (j + 1) 0) ≠ 0 from fun q => c_76 (by rw [q]; rfl))]; rfl) T84
  · dsimp only at hk1
    rcases hk1 with ⟨w1, hw1, -⟩ | ⟨hw1, hm1, hs5⟩
    case inl => exact absurd c_12 (by rw [hw1]; show ¬ (1 : Int32) = 0; decide)
    cases hs5
    refine lv_iconst (v := nI 0) C0.1 C0.2.1 d_MO_find_15 (by decide) ?_
    exact eM_z C0 hr hlk (b := false) ((s1, s2), (s1, s2), (d1, wp, wl, wf, wt), none, none) rfl hB ⟨rfl, hs1, hs2, Or.inl ⟨rfl, rfl, hm1⟩, fun z _ => rfl, fun i _ _ => ⟨rfl, rfl, rfl⟩⟩ (Nat.le_refl _) (Nat.le_refl _) d_MO_find_16
end MODEL7

/-- what two left behind -/
def TwoP (n : Nat) (kd : Nat → Nat) (ii oo : Nat → Int32) (np : Nat) (ea eb li : Nat → Nat) (u0 e0 u1 e1 a0 : Nat) (wp wl wf wt : Nat → Nat) (wn : Nat) (s1 s2 s3 s4 : Nat → Bool) (wp' wl' wf' wt' : Nat → Nat) (wn' : Nat) (x y : Option (List (Nat × Nat))) (r : Int32) : Prop :=
  ∃ wpF wlF wfF wtF, FindP n kd ii oo np ea eb li u0 e0 u1 e1 a0 wp wl wf wt s1 s2 s3 s4 wpF wlF wfF wtF x y ∧
    (((x.isSome && y.isSome) = true ∧ wn ≤ 62 ∧ r = nI (wn + 1) ∧ wn' = wn + 2 ∧ wp' = wpF ∧ wl' = wlF ∧ wf' = wfF ∧ wt' = wtF) ∨
     (¬ ((x.isSome && y.isSome) = true ∧ wn ≤ 62) ∧ r = (if (x.isSome && y.isSome) = true then -5 else -1) ∧ wn' = wn ∧ (∀ z, wp' z = wp z) ∧ ∀ i, wl' i = wl i ∧ wf' i = wf i ∧ wt' i = wt i))
theorem rs_3 {a0 : Nat} (z : Nat) : (z < a0 * 48 ∨ a0 * 48 + 96 ≤ z) ∨ (∃ x, x < 48 ∧ z = a0 * 48 + x) ∨ ∃ x, x < 48 ∧ z = (a0 + 1) * 48 + x := by
  rcases Nat.lt_or_ge z (a0 * 48) with h | h
  · exact Or.inl (Or.inl h)
  · rcases Nat.lt_or_ge z (a0 * 48 + 48) with h2 | h2
    · exact Or.inr (Or.inl ⟨z - a0 * 48, by omega, by omega⟩)
    · rcases Nat.lt_or_ge z (a0 * 48 + 96) with h3 | h3
      · exact Or.inr (Or.inr ⟨z - (a0 + 1) * 48, by omega, by omega⟩)
      · exact Or.inl (Or.inr h3)
theorem rs_l {a0 : Nat} {wl wl1 : Nat → Nat} (h : ∀ i, i ≠ a0 → i ≠ a0 + 1 → wl1 i = wl i) (i : Nat) : va_up (va_up wl1 a0 (wl a0)) (a0 + 1) (wl (a0 + 1)) i = wl i := by
  by_cases e : i = a0 + 1
  · rw [e, va_up_self]
  · rw [va_up_ne _ _ e]
    by_cases e2 : i = a0
    · rw [e2, va_up_self]
    · rw [va_up_ne _ _ e2]
      exact h i e2 e
section MODEL8
variable {l : Launch} {g : va_G} {t : Nat → ClassId} {b : Nat → Nat} {n : Nat} {kd : Nat → Nat} {em : Nat → Bool} {br : Nat → Bool} {ii : Nat → Int32} {oo : Nat → Int32} {np : Nat} {ea : Nat → Nat} {eb : Nat → Nat} {li : Nat → Nat} {rn : Nat → Bool} {wp : Nat → Nat} {wl : Nat → Nat} {wf : Nat → Nat} {wt : Nat → Nat} {wn : Nat} {ct : Nat → Nat} {sT : Nat → Bool} {sP : Nat → Bool} {sa : Nat → Nat} {sb : Nat → Nat} {rest : va_W}
set_option maxHeartbeats 4000000 in
set_option maxRecDepth 100000 in
theorem c_MO_two_no (x y z w0 : Int32) (hn : n ≤ 48) (hk : ∀ j, kd j < 3) (hno : ¬ ref2 n kd em x y z w0 = 0) : Rd l y_MO_two w_MO_two ({ frames := 5, cells := 0, slots := 0, locals := 131 }) g classes (tyL t) [.ref (b 0), .int x, .int y, .int z, .int w0] (mW b t n kd em br ii oo np ea eb li rn wp wl wf wt wn ct sT sP sa sb rest) (some (.int (ref2 n kd em x y z w0))) := by
  refine Rd.of (cc := b_MO_two) (maxL := 15) (ret := (some .int)) (own := R_MO) (by decide) rfl rfl (Nat.le_of_ble_eq_true rfl) ?_
  intro p e s m args below meth c C0 hr hlk hP ls hl
  have hl : lv_has ls 15 [(0, .ref (b 0)), (1, .int x), (2, .int y), (3, .int z), (4, .int w0)] := hl
  refine lv_aload_n C0.1 C0.2.1 d_MO_two_0 rfl (lv_at hl 0 rfl) ?_
  refine lv_iload_n C0.1 C0.2.1 d_MO_two_1 rfl (lv_at hl 1 rfl) ?_
  refine lv_iload_n C0.1 C0.2.1 d_MO_two_2 rfl (lv_at hl 2 rfl) ?_
  refine cR (As := [.int x, .int y]) (rest := []) C0 (c_MO_wrong x y hn hk) (q_MO_109 C0.2.2.2.2.1 rfl rfl ⟨Nat.le_of_ble_eq_true rfl, Nat.le_of_ble_eq_true rfl⟩) (ci := 5) (q0 := 0) rfl rfl rfl hP hl.1 rfl rfl (Nat.le_of_ble_eq_true rfl) d_MO_two_3 ⟨Nat.zero_le _, Nat.zero_le _⟩ ?_
  refine W.eq (g2 := F0 m 6 ls [.int (refC n kd em x y)]) rfl ?_
  refine lv_istore (lv' := [(5, .int (refC n kd em x y)), (0, .ref (b 0)), (1, .int x), (2, .int y), (3, .int z), (4, .int w0)]) C0.1 C0.2.1 d_MO_two_6 hl (by decide) rfl (fun ls hl => ?_)
  refine lv_iload C0.1 C0.2.1 d_MO_two_8 (lv_at hl 0 rfl) ?_
  refine lv_if_eq (tgt := 18) C0.1 C0.2.1 d_MO_two_10 (by decide) (fun c_10 => ?_) (fun c_10 => ?_)
  · refine lv_aload_n C0.1 C0.2.1 d_MO_two_18 rfl (lv_at hl 1 rfl) ?_
    refine lv_iload_n C0.1 C0.2.1 d_MO_two_19 rfl (lv_at hl 4 rfl) ?_
    refine lv_iload C0.1 C0.2.1 d_MO_two_20 (lv_at hl 5 rfl) ?_
    refine cR (As := [.int z, .int w0]) (rest := []) C0 (c_MO_wrong z w0 hn hk) (q_MO_109 C0.2.2.2.2.1 rfl rfl ⟨Nat.le_of_ble_eq_true rfl, Nat.le_of_ble_eq_true rfl⟩) (ci := 5) (q0 := 0) rfl rfl rfl hP hl.1 rfl rfl (Nat.le_of_ble_eq_true rfl) d_MO_two_22 ⟨Nat.zero_le _, Nat.zero_le _⟩ ?_
    refine W.eq (g2 := F0 m 25 ls [.int (refC n kd em z w0)]) rfl ?_
    refine lv_istore (lv' := [(5, .int (refC n kd em z w0)), (0, .ref (b 0)), (1, .int x), (2, .int y), (3, .int z), (4, .int w0)]) C0.1 C0.2.1 d_MO_two_25 hl (by decide) rfl (fun ls hl => ?_)
    refine lv_iload C0.1 C0.2.1 d_MO_two_27 (lv_at hl 0 rfl) ?_
    refine lv_if_eq (tgt := 35) C0.1 C0.2.1 d_MO_two_29 (by decide) (fun c_29 => ?_) (fun c_29 => ?_)
    · exact absurd (by unfold ref2; rw [if_pos c_10]; exact c_29) hno
    · refine lv_iload C0.1 C0.2.1 d_MO_two_32 (lv_at hl 0 rfl) ?_
      exact eR_i C0 hr hlk (by unfold ref2; rw [if_pos c_10]) d_MO_two_34
  · refine lv_iload C0.1 C0.2.1 d_MO_two_13 (lv_at hl 0 rfl) ?_
    refine lv_goto (tgt := 25) C0.1 C0.2.1 d_MO_two_15 (by decide) ?_
    refine lv_istore (lv' := [(5, .int (refC n kd em x y)), (0, .ref (b 0)), (1, .int x), (2, .int y), (3, .int z), (4, .int w0)]) C0.1 C0.2.1 d_MO_two_25 hl (by decide) rfl (fun ls hl => ?_)
    refine lv_iload C0.1 C0.2.1 d_MO_two_27 (lv_at hl 0 rfl) ?_
    refine lv_if_eq (tgt := 35) C0.1 C0.2.1 d_MO_two_29 (by decide) (fun c_29 => ?_) (fun c_29 => ?_)
    · exact absurd c_29 c_10
    · refine lv_iload C0.1 C0.2.1 d_MO_two_32 (lv_at hl 0 rfl) ?_
      exact eR_i C0 hr hlk (by unfold ref2; rw [if_neg c_10]) d_MO_two_34
set_option maxHeartbeats 4000000 in
set_option maxRecDepth 100000 in
theorem c_MO_two (u0 e0 u1 e1 a0 : Nat) (hu0 : u0 < n) (he0 : e0 < n) (hu1 : u1 < n) (he1 : e1 < n) (hok : refC n kd em (nI u0) (nI e0) = 0) (hok2 : refC n kd em (nI u1) (nI e1) = 0) (ha0 : a0 = if wn < 63 then wn else 62) (hwn : wn ≤ 64) (hku : kd u0 = 0) (hne : ∀ j, j < np → ea j ≠ eb j) (hn : n ≤ 48) (hnp : np ≤ 96) (hk : ∀ j, kd j < 3) (hea : ∀ j, j < np → ea j < n) (heb : ∀ j, j < np → eb j < n) (hli : ∀ j, j < np → 1 ≤ li j ∧ li j ≤ 1000000000) : Mt l y_MO_two w_MO_two ({ frames := 5, cells := 0, slots := 0, locals := 131 }) g classes (tyL t) [.ref (b 0), .int (nI u0), .int (nI e0), .int (nI u1), .int (nI e1)] (mW b t n kd em br ii oo np ea eb li rn wp wl wf wt wn ct sT sP sa sb rest) (S := (((Nat → Bool) × (Nat → Bool)) × ((Nat → Bool) × (Nat → Bool)) × ((Nat → Nat) × (Nat → Nat) × (Nat → Nat) × (Nat → Nat) × (Nat → Nat)) × ((Nat → Nat) × (Nat → Nat)) × Nat) × Option (List (Nat × Nat)) × Option (List (Nat × Nat)) × Int32) (fun v z => v = some (.int z.2.2.2) ∧ (∀ x, x < n → z.1.1.1 x = shT kd br rn ea eb np x) ∧ (∀ p, p < np → z.1.1.2 p = rn p) ∧ TwoP n kd ii oo np ea eb li u0 e0 u1 e1 a0 wp wl wf wt wn z.1.1.1 z.1.1.2 z.1.2.1.1 z.1.2.1.2 z.1.2.2.1.2.1 z.1.2.2.1.2.2.1 z.1.2.2.1.2.2.2.1 z.1.2.2.1.2.2.2.2 z.1.2.2.2.2 z.2.1 z.2.2.1 z.2.2.2) (fun z => (mW b t n kd em br ii oo np ea eb li rn z.1.2.2.1.2.1 z.1.2.2.1.2.2.1 z.1.2.2.1.2.2.2.1 z.1.2.2.1.2.2.2.2 z.1.2.2.2.2 z.1.2.2.1.1 z.1.2.1.1 z.1.2.1.2 z.1.2.2.2.1.1 z.1.2.2.2.1.2 rest)) 0 0 := by
  refine Mt.of (cc := b_MO_two) (maxL := 15) (ret := (some .int)) (own := R_MO) (by decide) rfl rfl (Nat.le_of_ble_eq_true rfl) ?_
  intro p e s m args below meth c C0 hr hlk hin A hA hB ls hl
  have hl : lv_has ls 15 [(0, .ref (b 0)), (1, .int (nI u0)), (2, .int (nI e0)), (3, .int (nI u1)), (4, .int (nI e1))] := hl
  have ha1 : a0 + 1 < 64 := by rw [ha0]; split <;> omega
  refine lv_aload_n C0.1 C0.2.1 d_MO_two_0 rfl (lv_at hl 0 rfl) ?_
  refine lv_iload_n C0.1 C0.2.1 d_MO_two_1 rfl (lv_at hl 1 rfl) ?_
  refine lv_iload_n C0.1 C0.2.1 d_MO_two_2 rfl (lv_at hl 2 rfl) ?_
  refine cR (As := [.int (nI u0), .int (nI e0)]) (rest := []) C0 (c_MO_wrong (nI u0) (nI e0) hn hk) (q_MO_109 C0.2.2.2.2.1 rfl rfl ⟨Nat.le_of_ble_eq_true rfl, Nat.le_of_ble_eq_true rfl⟩) (ci := 5) (q0 := 0) rfl rfl rfl hB.1 hl.1 rfl rfl (Nat.le_of_ble_eq_true rfl) d_MO_two_3 ⟨Nat.zero_le _, Nat.zero_le _⟩ ?_
  refine W.eq (g2 := F0 m 6 ls [.int (refC n kd em (nI u0) (nI e0))]) rfl ?_
  refine lv_istore (lv' := [(5, .int (refC n kd em (nI u0) (nI e0))), (0, .ref (b 0)), (1, .int (nI u0)), (2, .int (nI e0)), (3, .int (nI u1)), (4, .int (nI e1))]) C0.1 C0.2.1 d_MO_two_6 hl (by decide) rfl (fun ls hl => ?_)
  refine lv_iload C0.1 C0.2.1 d_MO_two_8 (lv_at hl 0 rfl) ?_
  refine lv_if_eq (tgt := 18) C0.1 C0.2.1 d_MO_two_10 (by decide) (fun c_10 => ?_) (fun c_10 => ?_)
  · refine lv_aload_n C0.1 C0.2.1 d_MO_two_18 rfl (lv_at hl 1 rfl) ?_
    refine lv_iload_n C0.1 C0.2.1 d_MO_two_19 rfl (lv_at hl 4 rfl) ?_
    refine lv_iload C0.1 C0.2.1 d_MO_two_20 (lv_at hl 5 rfl) ?_
    refine cR (As := [.int (nI u1), .int (nI e1)]) (rest := []) C0 (c_MO_wrong (nI u1) (nI e1) hn hk) (q_MO_109 C0.2.2.2.2.1 rfl rfl ⟨Nat.le_of_ble_eq_true rfl, Nat.le_of_ble_eq_true rfl⟩) (ci := 5) (q0 := 0) rfl rfl rfl hB.1 hl.1 rfl rfl (Nat.le_of_ble_eq_true rfl) d_MO_two_22 ⟨Nat.zero_le _, Nat.zero_le _⟩ ?_
    refine W.eq (g2 := F0 m 25 ls [.int (refC n kd em (nI u1) (nI e1))]) rfl ?_
    refine lv_istore (lv' := [(5, .int (refC n kd em (nI u1) (nI e1))), (0, .ref (b 0)), (1, .int (nI u0)), (2, .int (nI e0)), (3, .int (nI u1)), (4, .int (nI e1))]) C0.1 C0.2.1 d_MO_two_25 hl (by decide) rfl (fun ls hl => ?_)
    refine lv_iload C0.1 C0.2.1 d_MO_two_27 (lv_at hl 0 rfl) ?_
    refine lv_if_eq (tgt := 35) C0.1 C0.2.1 d_MO_two_29 (by decide) (fun c_29 => ?_) (fun c_29 => ?_)
    · refine wcut (g2 := F0 m 53 ls [.int (nI a0)]) ?_ (fun T53 => ?_)
      · refine lv_istore (lv' := [(6, .int (nI a0)), (5, .int (refC n kd em (nI u1) (nI e1))), (0, .ref (b 0)), (1, .int (nI u0)), (2, .int (nI e0)), (3, .int (nI u1)), (4, .int (nI e1))]) C0.1 C0.2.1 d_MO_two_53 hl (by decide) rfl (fun ls hl => ?_)
        refine lv_iconst (v := nI 0) C0.1 C0.2.1 d_MO_two_55 (by decide) ?_
        refine lv_istore (lv' := [(7, .int (nI 0)), (6, .int (nI a0)), (5, .int (refC n kd em (nI u1) (nI e1))), (0, .ref (b 0)), (1, .int (nI u0)), (2, .int (nI e0)), (3, .int (nI u1)), (4, .int (nI e1))]) C0.1 C0.2.1 d_MO_two_56 hl (by decide) rfl (fun ls hl => ?_)
        refine wlM (σ := Nat × (Nat → Nat) × (Nat → Nat)) (head := 58) (fun z_ => 48 - z_.1) (fun z_ => z_.1 ≤ 48 ∧ (∀ x, x < z_.1 → z_.2.1 x = wp (a0 * 48 + x)) ∧ ∀ x, x < z_.1 → z_.2.2 x = wp ((a0 + 1) * 48 + x)) (fun z_ => (mW b t n kd em br ii oo np ea eb li rn wp wl wf wt wn ct sT sP z_.2.1 z_.2.2 rest)) (fun z_ => [(0, .ref (b 0)), (1, .int (nI u0)), (2, .int (nI e0)), (3, .int (nI u1)), (4, .int (nI e1)), (6, .int (nI a0)), (7, .int (nI z_.1))]) ?_ (0, sa, sb) (show 0 ≤ 48 ∧ (∀ x, x < 0 → sa x = wp (a0 * 48 + x)) ∧ ∀ x, x < 0 → sb x = wp ((a0 + 1) * 48 + x) from ⟨Nat.zero_le _, fun i h => absurd h (Nat.not_lt_zero _), fun i h => absurd h (Nat.not_lt_zero _)⟩) hB (lv_sub hl [3, 4, 5, 6, 7, 1, 0] rfl)
        rintro ⟨j, f, h⟩ hi ih_58 H locs ls hB hl
        have hi : j ≤ 48 ∧ (∀ x, x < j → f x = wp (a0 * 48 + x)) ∧ ∀ x, x < j → h x = wp ((a0 + 1) * 48 + x) := hi
        obtain ⟨hi1, hi2, hi3⟩ := hi
        have hl : lv_has ls 15 [(0, .ref (b 0)), (1, .int (nI u0)), (2, .int (nI e0)), (3, .int (nI u1)), (4, .int (nI e1)), (6, .int (nI a0)), (7, .int (nI j))] := hl
        have hB : wB g classes A s.heap (mW b t n kd em br ii oo np ea eb li rn wp wl wf wt wn ct sT sP f h rest) H locs := hB
        refine lv_iload C0.1 C0.2.1 d_MO_two_58 (lv_at hl 6 rfl) ?_
        refine lv_bipush (v := nI 48) C0.1 C0.2.1 d_MO_two_60 (by decide) ?_
        refine lv_icmp_ge (tgt := 113) C0.1 C0.2.1 d_MO_two_62 (by decide) (fun c_62 => ?_) (fun c_62 => ?_)
        · have hj : j = 48 := by have := (nI_leI (by omega) (by omega)).mp c_62; omega
          have hi2 : ∀ x, x < 48 → f x = wp (a0 * 48 + x) := fun x hx => hi2 x (by omega)
          have hi3 : ∀ x, x < 48 → h x = wp ((a0 + 1) * 48 + x) := fun x hx => hi3 x (by omega)
          refine lv_aload_n C0.1 C0.2.1 d_MO_two_113 rfl (lv_at hl 0 rfl) ?_
          refine gf_MO_42 C0 hB.1 0 rfl rfl d_MO_two_114 ?_
          refine lv_iload C0.1 C0.2.1 d_MO_two_117 (lv_at hl 5 rfl) ?_
          refine ald_i C0 hB.1 11 0 rfl rfl (by omega) (by decide) d_MO_two_119 ?_
          refine lv_istore (lv' := [(7, .int (nI (wl a0))), (0, .ref (b 0)), (1, .int (nI u0)), (2, .int (nI e0)), (3, .int (nI u1)), (4, .int (nI e1)), (6, .int (nI a0))]) C0.1 C0.2.1 d_MO_two_120 hl (by decide) rfl (fun ls hl => ?_)
          refine lv_aload_n C0.1 C0.2.1 d_MO_two_122 rfl (lv_at hl 1 rfl) ?_
          refine gf_MO_42 C0 hB.1 0 rfl rfl d_MO_two_123 ?_
          refine lv_iload C0.1 C0.2.1 d_MO_two_126 (lv_at hl 6 rfl) ?_
          refine lv_iconst (v := nI 1) C0.1 C0.2.1 d_MO_two_128 (by decide) ?_
          refine lv_iadd C0.1 C0.2.1 d_MO_two_129 ?_
          refine ti (show (nI a0) + (nI 1) = nI (a0 + 1) from nI_add _ _) ?_
          refine ald_i C0 hB.1 11 0 rfl rfl (by omega) (by decide) d_MO_two_130 ?_
          refine lv_istore (lv' := [(8, .int (nI (wl (a0 + 1)))), (7, .int (nI (wl a0))), (0, .ref (b 0)), (1, .int (nI u0)), (2, .int (nI e0)), (3, .int (nI u1)), (4, .int (nI e1)), (6, .int (nI a0))]) C0.1 C0.2.1 d_MO_two_131 hl (by decide) rfl (fun ls hl => ?_)
          refine lv_aload_n C0.1 C0.2.1 d_MO_two_133 rfl (lv_at hl 2 rfl) ?_
          refine gf_MO_45 C0 hB.1 0 rfl rfl d_MO_two_134 ?_
          refine lv_iload C0.1 C0.2.1 d_MO_two_137 (lv_at hl 7 rfl) ?_
          refine ald_i C0 hB.1 12 0 rfl rfl (by omega) (by decide) d_MO_two_139 ?_
          refine lv_istore (lv' := [(9, .int (nI (wf a0))), (8, .int (nI (wl (a0 + 1)))), (7, .int (nI (wl a0))), (0, .ref (b 0)), (1, .int (nI u0)), (2, .int (nI e0)), (3, .int (nI u1)), (4, .int (nI e1)), (6, .int (nI a0))]) C0.1 C0.2.1 d_MO_two_140 hl (by decide) rfl (fun ls hl => ?_)
          refine lv_aload_n C0.1 C0.2.1 d_MO_two_142 rfl (lv_at hl 3 rfl) ?_
          refine gf_MO_45 C0 hB.1 0 rfl rfl d_MO_two_143 ?_
          refine lv_iload C0.1 C0.2.1 d_MO_two_146 (lv_at hl 8 rfl) ?_
          refine lv_iconst (v := nI 1) C0.1 C0.2.1 d_MO_two_148 (by decide) ?_
          refine lv_iadd C0.1 C0.2.1 d_MO_two_149 ?_
          refine ti (show (nI a0) + (nI 1) = nI (a0 + 1) from nI_add _ _) ?_
          refine ald_i C0 hB.1 12 0 rfl rfl (by omega) (by decide) d_MO_two_150 ?_
          refine lv_istore (lv' := [(10, .int (nI (wf (a0 + 1)))), (9, .int (nI (wf a0))), (8, .int (nI (wl (a0 + 1)))), (7, .int (nI (wl a0))), (0, .ref (b 0)), (1, .int (nI u0)), (2, .int (nI e0)), (3, .int (nI u1)), (4, .int (nI e1)), (6, .int (nI a0))]) C0.1 C0.2.1 d_MO_two_151 hl (by decide) rfl (fun ls hl => ?_)
          refine lv_aload_n C0.1 C0.2.1 d_MO_two_153 rfl (lv_at hl 4 rfl) ?_
          refine gf_MO_48 C0 hB.1 0 rfl rfl d_MO_two_154 ?_
          refine lv_iload C0.1 C0.2.1 d_MO_two_157 (lv_at hl 9 rfl) ?_
          refine ald_i C0 hB.1 13 0 rfl rfl (by omega) (by decide) d_MO_two_159 ?_
          refine lv_istore (lv' := [(11, .int (nI (wt a0))), (10, .int (nI (wf (a0 + 1)))), (9, .int (nI (wf a0))), (8, .int (nI (wl (a0 + 1)))), (7, .int (nI (wl a0))), (0, .ref (b 0)), (1, .int (nI u0)), (2, .int (nI e0)), (3, .int (nI u1)), (4, .int (nI e1)), (6, .int (nI a0))]) C0.1 C0.2.1 d_MO_two_160 hl (by decide) rfl (fun ls hl => ?_)
          refine lv_aload_n C0.1 C0.2.1 d_MO_two_162 rfl (lv_at hl 5 rfl) ?_
          refine gf_MO_48 C0 hB.1 0 rfl rfl d_MO_two_163 ?_
          refine lv_iload C0.1 C0.2.1 d_MO_two_166 (lv_at hl 10 rfl) ?_
          refine lv_iconst (v := nI 1) C0.1 C0.2.1 d_MO_two_168 (by decide) ?_
          refine lv_iadd C0.1 C0.2.1 d_MO_two_169 ?_
          refine ti (show (nI a0) + (nI 1) = nI (a0 + 1) from nI_add _ _) ?_
          refine ald_i C0 hB.1 13 0 rfl rfl (by omega) (by decide) d_MO_two_170 ?_
          refine lv_istore (lv' := [(12, .int (nI (wt (a0 + 1)))), (11, .int (nI (wt a0))), (10, .int (nI (wf (a0 + 1)))), (9, .int (nI (wf a0))), (8, .int (nI (wl (a0 + 1)))), (7, .int (nI (wl a0))), (0, .ref (b 0)), (1, .int (nI u0)), (2, .int (nI e0)), (3, .int (nI u1)), (4, .int (nI e1)), (6, .int (nI a0))]) C0.1 C0.2.1 d_MO_two_171 hl (by decide) rfl (fun ls hl => ?_)
          refine lv_aload_n C0.1 C0.2.1 d_MO_two_173 rfl (lv_at hl 6 rfl) ?_
          refine lv_iload_n C0.1 C0.2.1 d_MO_two_174 rfl (lv_at hl 7 rfl) ?_
          refine lv_iload_n C0.1 C0.2.1 d_MO_two_175 rfl (lv_at hl 8 rfl) ?_
          refine lv_iload_n C0.1 C0.2.1 d_MO_two_176 rfl (lv_at hl 9 rfl) ?_
          refine lv_iload C0.1 C0.2.1 d_MO_two_177 (lv_at hl 10 rfl) ?_
          refine lv_iload C0.1 C0.2.1 d_MO_two_179 (lv_at hl 11 rfl) ?_
          refine cM (As := [.int (nI u0), .int (nI e0), .int (nI u1), .int (nI e1), .int (nI a0)]) (rest := []) C0 (c_MO_find u0 e0 u1 e1 a0 hu0 he0 hu1 he1 ha1 hku hne hn hnp hk hea heb hli) (q_MO_133 C0.2.2.2.2.1 rfl rfl ⟨Nat.le_of_ble_eq_true rfl, Nat.le_of_ble_eq_true rfl⟩) (ci := 5) (q0 := 0) rfl rfl rfl hB hl.1 rfl rfl (Nat.le_of_ble_eq_true rfl) d_MO_two_181 ⟨Nat.zero_le _, Nat.zero_le _⟩ (fun v_181 u_181 H locs hp_181 hB => ?_)
          obtain ⟨⟨s1, s2⟩, ⟨s3, s4⟩, ⟨d1, wp1, wl1, wf1, wt1⟩, x1, x2⟩ := u_181
          obtain ⟨rfl, hs1, hs2, hF⟩ := hp_181
          dsimp only at hF
          have hB : wB g classes A s.heap (mW b t n kd em br ii oo np ea eb li rn wp1 wl1 wf1 wt1 wn d1 s3 s4 f h rest) H locs := hB
          refine W.eq (g2 := F0 m 184 ls [.int (bI (x1.isSome && x2.isSome))]) rfl ?_
          refine lv_istore (lv' := [(13, .int (bI (x1.isSome && x2.isSome))), (12, .int (nI (wt (a0 + 1)))), (11, .int (nI (wt a0))), (10, .int (nI (wf (a0 + 1)))), (9, .int (nI (wf a0))), (8, .int (nI (wl (a0 + 1)))), (7, .int (nI (wl a0))), (0, .ref (b 0)), (1, .int (nI u0)), (2, .int (nI e0)), (3, .int (nI u1)), (4, .int (nI e1)), (6, .int (nI a0))]) C0.1 C0.2.1 d_MO_two_184 hl (by decide) rfl (fun ls hl => ?_)
          refine lv_iload C0.1 C0.2.1 d_MO_two_186 (lv_at hl 0 rfl) ?_
          refine lv_if_eq (tgt := 217) C0.1 C0.2.1 d_MO_two_188 (by decide) (fun c_188 => ?_) (fun c_188 => ?_)
          · refine lv_iconst (v := nI 0) C0.1 C0.2.1 d_MO_two_217 (by decide) ?_
            refine lv_istore (lv' := [(14, .int (nI 0)), (13, .int (bI (x1.isSome && x2.isSome))), (12, .int (nI (wt (a0 + 1)))), (11, .int (nI (wt a0))), (10, .int (nI (wf (a0 + 1)))), (9, .int (nI (wf a0))), (8, .int (nI (wl (a0 + 1)))), (7, .int (nI (wl a0))), (0, .ref (b 0)), (1, .int (nI u0)), (2, .int (nI e0)), (3, .int (nI u1)), (4, .int (nI e1)), (6, .int (nI a0))]) C0.1 C0.2.1 d_MO_two_218 hl (by decide) rfl (fun ls hl => ?_)
            refine wlM (σ := Nat × (Nat → Nat)) (head := 220) (fun z_ => 48 - z_.1) (fun z_ => z_.1 ≤ 48 ∧ (∀ x, x < z_.1 → z_.2 (a0 * 48 + x) = wp (a0 * 48 + x)) ∧ (∀ x, x < z_.1 → z_.2 ((a0 + 1) * 48 + x) = wp ((a0 + 1) * 48 + x)) ∧ ∀ z, (z < a0 * 48 ∨ a0 * 48 + 96 ≤ z) → z_.2 z = wp z) (fun z_ => (mW b t n kd em br ii oo np ea eb li rn z_.2 wl1 wf1 wt1 wn d1 s3 s4 f h rest)) (fun z_ => [(0, .ref (b 0)), (1, .int (nI u0)), (2, .int (nI e0)), (3, .int (nI u1)), (4, .int (nI e1)), (6, .int (nI a0)), (7, .int (nI (wl a0))), (8, .int (nI (wl (a0 + 1)))), (9, .int (nI (wf a0))), (10, .int (nI (wf (a0 + 1)))), (11, .int (nI (wt a0))), (12, .int (nI (wt (a0 + 1)))), (13, .int (bI (x1.isSome && x2.isSome))), (14, .int (nI z_.1))]) ?_ (0, wp1) (show 0 ≤ 48 ∧ (∀ x, x < 0 → wp1 (a0 * 48 + x) = wp (a0 * 48 + x)) ∧ (∀ x, x < 0 → wp1 ((a0 + 1) * 48 + x) = wp ((a0 + 1) * 48 + x)) ∧ ∀ z, (z < a0 * 48 ∨ a0 * 48 + 96 ≤ z) → wp1 z = wp z from ⟨Nat.zero_le _, fun i h => absurd h (Nat.not_lt_zero _), fun i h => absurd h (Nat.not_lt_zero _), hF.2.1⟩) hB (lv_sub hl [8, 9, 10, 11, 12, 13, 7, 6, 5, 4, 3, 2, 1, 0] rfl)
            rintro ⟨i, q⟩ hi ih_220 H locs ls hB hl
            have hi : i ≤ 48 ∧ (∀ x, x < i → q (a0 * 48 + x) = wp (a0 * 48 + x)) ∧ (∀ x, x < i → q ((a0 + 1) * 48 + x) = wp ((a0 + 1) * 48 + x)) ∧ ∀ z, (z < a0 * 48 ∨ a0 * 48 + 96 ≤ z) → q z = wp z := hi
            obtain ⟨hz1, hz2, hz3, hz4⟩ := hi
            have hl : lv_has ls 15 [(0, .ref (b 0)), (1, .int (nI u0)), (2, .int (nI e0)), (3, .int (nI u1)), (4, .int (nI e1)), (6, .int (nI a0)), (7, .int (nI (wl a0))), (8, .int (nI (wl (a0 + 1)))), (9, .int (nI (wf a0))), (10, .int (nI (wf (a0 + 1)))), (11, .int (nI (wt a0))), (12, .int (nI (wt (a0 + 1)))), (13, .int (bI (x1.isSome && x2.isSome))), (14, .int (nI i))] := hl
            have hB : wB g classes A s.heap (mW b t n kd em br ii oo np ea eb li rn q wl1 wf1 wt1 wn d1 s3 s4 f h rest) H locs := hB
            refine lv_iload C0.1 C0.2.1 d_MO_two_220 (lv_at hl 13 rfl) ?_
            refine lv_bipush (v := nI 48) C0.1 C0.2.1 d_MO_two_222 (by decide) ?_
            refine lv_icmp_ge (tgt := 275) C0.1 C0.2.1 d_MO_two_224 (by decide) (fun c_224 => ?_) (fun c_224 => ?_)
            · have hi : i = 48 := by have := (nI_leI (by omega) (by omega)).mp c_224; omega
              refine lv_aload_n C0.1 C0.2.1 d_MO_two_275 rfl (lv_at hl 0 rfl) ?_
              refine gf_MO_42 C0 hB.1 0 rfl rfl d_MO_two_276 ?_
              refine lv_iload C0.1 C0.2.1 d_MO_two_279 (lv_at hl 5 rfl) ?_
              refine lv_iload C0.1 C0.2.1 d_MO_two_281 (lv_at hl 6 rfl) ?_
              refine ast_i (w' := (mW b t n kd em br ii oo np ea eb li rn q (va_up wl1 a0 (wl a0)) wf1 wt1 wn d1 s3 s4 f h rest)) C0 hB 11 0 rfl rfl (by omega) (by decide) up_nI rfl d_MO_two_283 (fun H locs hB => ?_)
              refine lv_aload_n C0.1 C0.2.1 d_MO_two_284 rfl (lv_at hl 0 rfl) ?_
              refine gf_MO_42 C0 hB.1 0 rfl rfl d_MO_two_285 ?_
              refine lv_iload C0.1 C0.2.1 d_MO_two_288 (lv_at hl 5 rfl) ?_
              refine lv_iconst (v := nI 1) C0.1 C0.2.1 d_MO_two_290 (by decide) ?_
              refine lv_iadd C0.1 C0.2.1 d_MO_two_291 ?_
              refine ti (show (nI a0) + (nI 1) = nI (a0 + 1) from nI_add _ _) ?_
              refine lv_iload C0.1 C0.2.1 d_MO_two_292 (lv_at hl 7 rfl) ?_
              refine ast_i (w' := (mW b t n kd em br ii oo np ea eb li rn q (va_up (va_up wl1 a0 (wl a0)) (a0 + 1) (wl (a0 + 1))) wf1 wt1 wn d1 s3 s4 f h rest)) C0 hB 11 0 rfl rfl (by omega) (by decide) up_nI rfl d_MO_two_294 (fun H locs hB => ?_)
              refine lv_aload_n C0.1 C0.2.1 d_MO_two_295 rfl (lv_at hl 0 rfl) ?_
              refine gf_MO_45 C0 hB.1 0 rfl rfl d_MO_two_296 ?_
              refine lv_iload C0.1 C0.2.1 d_MO_two_299 (lv_at hl 5 rfl) ?_
              refine lv_iload C0.1 C0.2.1 d_MO_two_301 (lv_at hl 8 rfl) ?_
              refine ast_i (w' := (mW b t n kd em br ii oo np ea eb li rn q (va_up (va_up wl1 a0 (wl a0)) (a0 + 1) (wl (a0 + 1))) (va_up wf1 a0 (wf a0)) wt1 wn d1 s3 s4 f h rest)) C0 hB 12 0 rfl rfl (by omega) (by decide) up_nI rfl d_MO_two_303 (fun H locs hB => ?_)
              refine lv_aload_n C0.1 C0.2.1 d_MO_two_304 rfl (lv_at hl 0 rfl) ?_
              refine gf_MO_45 C0 hB.1 0 rfl rfl d_MO_two_305 ?_
              refine lv_iload C0.1 C0.2.1 d_MO_two_308 (lv_at hl 5 rfl) ?_
              refine lv_iconst (v := nI 1) C0.1 C0.2.1 d_MO_two_310 (by decide) ?_
              refine lv_iadd C0.1 C0.2.1 d_MO_two_311 ?_
              refine ti (show (nI a0) + (nI 1) = nI (a0 + 1) from nI_add _ _) ?_
              refine lv_iload C0.1 C0.2.1 d_MO_two_312 (lv_at hl 9 rfl) ?_
              refine ast_i (w' := (mW b t n kd em br ii oo np ea eb li rn q (va_up (va_up wl1 a0 (wl a0)) (a0 + 1) (wl (a0 + 1))) (va_up (va_up wf1 a0 (wf a0)) (a0 + 1) (wf (a0 + 1))) wt1 wn d1 s3 s4 f h rest)) C0 hB 12 0 rfl rfl (by omega) (by decide) up_nI rfl d_MO_two_314 (fun H locs hB => ?_)
              refine lv_aload_n C0.1 C0.2.1 d_MO_two_315 rfl (lv_at hl 0 rfl) ?_
              refine gf_MO_48 C0 hB.1 0 rfl rfl d_MO_two_316 ?_
              refine lv_iload C0.1 C0.2.1 d_MO_two_319 (lv_at hl 5 rfl) ?_
              refine lv_iload C0.1 C0.2.1 d_MO_two_321 (lv_at hl 10 rfl) ?_
              refine ast_i (w' := (mW b t n kd em br ii oo np ea eb li rn q (va_up (va_up wl1 a0 (wl a0)) (a0 + 1) (wl (a0 + 1))) (va_up (va_up wf1 a0 (wf a0)) (a0 + 1) (wf (a0 + 1))) (va_up wt1 a0 (wt a0)) wn d1 s3 s4 f h rest)) C0 hB 13 0 rfl rfl (by omega) (by decide) up_nI rfl d_MO_two_323 (fun H locs hB => ?_)
              refine lv_aload_n C0.1 C0.2.1 d_MO_two_324 rfl (lv_at hl 0 rfl) ?_
              refine gf_MO_48 C0 hB.1 0 rfl rfl d_MO_two_325 ?_
              refine lv_iload C0.1 C0.2.1 d_MO_two_328 (lv_at hl 5 rfl) ?_
              refine lv_iconst (v := nI 1) C0.1 C0.2.1 d_MO_two_330 (by decide) ?_
              refine lv_iadd C0.1 C0.2.1 d_MO_two_331 ?_
              refine ti (show (nI a0) + (nI 1) = nI (a0 + 1) from nI_add _ _) ?_
              refine lv_iload C0.1 C0.2.1 d_MO_two_332 (lv_at hl 11 rfl) ?_
              refine ast_i (w' := (mW b t n kd em br ii oo np ea eb li rn q (va_up (va_up wl1 a0 (wl a0)) (a0 + 1) (wl (a0 + 1))) (va_up (va_up wf1 a0 (wf a0)) (a0 + 1) (wf (a0 + 1))) (va_up (va_up wt1 a0 (wt a0)) (a0 + 1) (wt (a0 + 1))) wn d1 s3 s4 f h rest)) C0 hB 13 0 rfl rfl (by omega) (by decide) up_nI rfl d_MO_two_334 (fun H locs hB => ?_)
              refine lv_iload C0.1 C0.2.1 d_MO_two_335 (lv_at hl 12 rfl) ?_
              refine lv_if_eq (tgt := 345) C0.1 C0.2.1 d_MO_two_337 (by decide) (fun c_337 => ?_) (fun c_337 => ?_)
              · refine lv_iconst (v := -1) C0.1 C0.2.1 d_MO_two_345 (by decide) ?_
                have hnk : ¬ ((x1.isSome && x2.isSome) = true ∧ wn ≤ 62) := fun q => by rw [bI_0.mp c_188] at q; cases q.1
                have hT : TwoP n kd ii oo np ea eb li u0 e0 u1 e1 a0 wp wl wf wt wn s1 s2 s3 s4 q (va_up (va_up wl1 a0 (wl a0)) (a0 + 1) (wl (a0 + 1))) (va_up (va_up wf1 a0 (wf a0)) (a0 + 1) (wf (a0 + 1))) (va_up (va_up wt1 a0 (wt a0)) (a0 + 1) (wt (a0 + 1))) wn x1 x2 (-1) := by
                  refine ⟨wp1, wl1, wf1, wt1, hF, Or.inr ⟨hnk, by rw [bI_0.mp c_337]; rfl, rfl, fun z => ?_, fun i => ⟨rs_l (fun i a c => (hF.2.2 i a c).1) i, rs_l (fun i a c => (hF.2.2 i a c).2.1) i, rs_l (fun i a c => (hF.2.2 i a c).2.2) i⟩⟩⟩
                  rcases rs_3 (a0 := a0) z with r | ⟨x, hx, r⟩ | ⟨x, hx, r⟩
                  · exact hz4 z r
                  · rw [r]; exact hz2 x (by omega)
                  · rw [r]; exact hz3 x (by omega)
                exact eM_i C0 hr hlk (((s1, s2), (s3, s4), (d1, q, (va_up (va_up wl1 a0 (wl a0)) (a0 + 1) (wl (a0 + 1))), (va_up (va_up wf1 a0 (wf a0)) (a0 + 1) (wf (a0 + 1))), (va_up (va_up wt1 a0 (wt a0)) (a0 + 1) (wt (a0 + 1)))), (f, h), wn), x1, x2, -1) hB ⟨rfl, hs1, hs2, hT⟩ (Nat.le_refl _) (Nat.le_refl _) d_MO_two_346
              · refine lv_bipush (v := -5) C0.1 C0.2.1 d_MO_two_340 (by decide) ?_
                refine lv_goto (tgt := 346) C0.1 C0.2.1 d_MO_two_342 (by decide) ?_
                have hnk : ¬ ((x1.isSome && x2.isSome) = true ∧ wn ≤ 62) := fun q => by rw [bI_0.mp c_188] at q; cases q.1
                have hT : TwoP n kd ii oo np ea eb li u0 e0 u1 e1 a0 wp wl wf wt wn s1 s2 s3 s4 q (va_up (va_up wl1 a0 (wl a0)) (a0 + 1) (wl (a0 + 1))) (va_up (va_up wf1 a0 (wf a0)) (a0 + 1) (wf (a0 + 1))) (va_up (va_up wt1 a0 (wt a0)) (a0 + 1) (wt (a0 + 1))) wn x1 x2 (-5) := by
                  refine ⟨wp1, wl1, wf1, wt1, hF, Or.inr ⟨hnk, by rw [bI_n0.mp c_337]; rfl, rfl, fun z => ?_, fun i => ⟨rs_l (fun i a c => (hF.2.2 i a c).1) i, rs_l (fun i a c => (hF.2.2 i a c).2.1) i, rs_l (fun i a c => (hF.2.2 i a c).2.2) i⟩⟩⟩
                  rcases rs_3 (a0 := a0) z with r | ⟨x, hx, r⟩ | ⟨x, hx, r⟩
                  · exact hz4 z r
                  · rw [r]; exact hz2 x (by omega)
                  · rw [r]; exact hz3 x (by omega)
                exact eM_i C0 hr hlk (((s1, s2), (s3, s4), (d1, q, (va_up (va_up wl1 a0 (wl a0)) (a0 + 1) (wl (a0 + 1))), (va_up (va_up wf1 a0 (wf a0)) (a0 + 1) (wf (a0 + 1))), (va_up (va_up wt1 a0 (wt a0)) (a0 + 1) (wt (a0 + 1)))), (f, h), wn), x1, x2, -5) hB ⟨rfl, hs1, hs2, hT⟩ (Nat.le_refl _) (Nat.le_refl _) d_MO_two_346
            · have hi : i < 48 := (nI_nle' (by omega) (by omega)).mp c_224
              refine lv_aload_n C0.1 C0.2.1 d_MO_two_227 rfl (lv_at hl 0 rfl) ?_
              refine gf_MO_39 C0 hB.1 0 rfl rfl d_MO_two_228 ?_
              refine lv_iload C0.1 C0.2.1 d_MO_two_231 (lv_at hl 5 rfl) ?_
              refine lv_bipush (v := nI 48) C0.1 C0.2.1 d_MO_two_233 (by decide) ?_
              refine lv_imul C0.1 C0.2.1 d_MO_two_235 ?_
              refine ti (show (nI a0) * (nI 48) = nI (a0 * 48) from pk_mul _ _) ?_
              refine lv_iload C0.1 C0.2.1 d_MO_two_236 (lv_at hl 13 rfl) ?_
              refine lv_iadd C0.1 C0.2.1 d_MO_two_238 ?_
              refine ti (show (nI (a0 * 48)) + (nI i) = nI (a0 * 48 + i) from nI_add _ _) ?_
              refine lv_aload_n C0.1 C0.2.1 d_MO_two_239 rfl (lv_at hl 0 rfl) ?_
              refine gf_MO_60 C0 hB.1 0 rfl rfl d_MO_two_240 ?_
              refine lv_iload C0.1 C0.2.1 d_MO_two_243 (lv_at hl 13 rfl) ?_
              refine ald_i C0 hB.1 17 0 rfl rfl (by omega) (by decide) d_MO_two_245 ?_
              refine ast_i (w' := (mW b t n kd em br ii oo np ea eb li rn (va_up q (a0 * 48 + i) (f i)) wl1 wf1 wt1 wn d1 s3 s4 f h rest)) C0 hB 10 0 rfl rfl (by omega) (by decide) up_nI rfl d_MO_two_246 (fun H locs hB => ?_)
              refine lv_aload_n C0.1 C0.2.1 d_MO_two_247 rfl (lv_at hl 0 rfl) ?_
              refine gf_MO_39 C0 hB.1 0 rfl rfl d_MO_two_248 ?_
              refine lv_iload C0.1 C0.2.1 d_MO_two_251 (lv_at hl 5 rfl) ?_
              refine lv_iconst (v := nI 1) C0.1 C0.2.1 d_MO_two_253 (by decide) ?_
              refine lv_iadd C0.1 C0.2.1 d_MO_two_254 ?_
              refine ti (show (nI a0) + (nI 1) = nI (a0 + 1) from nI_add _ _) ?_
              refine lv_bipush (v := nI 48) C0.1 C0.2.1 d_MO_two_255 (by decide) ?_
              refine lv_imul C0.1 C0.2.1 d_MO_two_257 ?_
              refine ti (show (nI (a0 + 1)) * (nI 48) = nI ((a0 + 1) * 48) from pk_mul _ _) ?_
              refine lv_iload C0.1 C0.2.1 d_MO_two_258 (lv_at hl 13 rfl) ?_
              refine lv_iadd C0.1 C0.2.1 d_MO_two_260 ?_
              refine ti (show (nI ((a0 + 1) * 48)) + (nI i) = nI ((a0 + 1) * 48 + i) from nI_add _ _) ?_
              refine lv_aload_n C0.1 C0.2.1 d_MO_two_261 rfl (lv_at hl 0 rfl) ?_
              refine gf_MO_63 C0 hB.1 0 rfl rfl d_MO_two_262 ?_
              refine lv_iload C0.1 C0.2.1 d_MO_two_265 (lv_at hl 13 rfl) ?_
              refine ald_i C0 hB.1 18 0 rfl rfl (by omega) (by decide) d_MO_two_267 ?_
              refine ast_i (w' := (mW b t n kd em br ii oo np ea eb li rn (va_up (va_up q (a0 * 48 + i) (f i)) ((a0 + 1) * 48 + i) (h i)) wl1 wf1 wt1 wn d1 s3 s4 f h rest)) C0 hB 10 0 rfl rfl (by omega) (by decide) up_nI rfl d_MO_two_268 (fun H locs hB => ?_)
              refine lv_iinc (v := nI (i + 1)) (lv' := [(14, .int (nI (i + 1))), (0, .ref (b 0)), (1, .int (nI u0)), (2, .int (nI e0)), (3, .int (nI u1)), (4, .int (nI e1)), (6, .int (nI a0)), (7, .int (nI (wl a0))), (8, .int (nI (wl (a0 + 1)))), (9, .int (nI (wf a0))), (10, .int (nI (wf (a0 + 1)))), (11, .int (nI (wt a0))), (12, .int (nI (wt (a0 + 1)))), (13, .int (bI (x1.isSome && x2.isSome)))]) C0.1 C0.2.1 d_MO_two_269 hl (k := 13) rfl (inc1 _) (by decide) rfl (fun ls hl => ?_)
              refine lv_goto (tgt := 220) C0.1 C0.2.1 d_MO_two_272 (by decide) ?_
              exact ih_220 ((i + 1), (va_up (va_up q (a0 * 48 + i) (f i)) ((a0 + 1) * 48 + i) (h i))) (show (i + 1) ≤ 48 ∧ (∀ x, x < (i + 1) → (va_up (va_up q (a0 * 48 + i) (f i)) ((a0 + 1) * 48 + i) (h i)) (a0 * 48 + x) = wp (a0 * 48 + x)) ∧ (∀ x, x < (i + 1) → (va_up (va_up q (a0 * 48 + i) (f i)) ((a0 + 1) * 48 + i) (h i)) ((a0 + 1) * 48 + x) = wp ((a0 + 1) * 48 + x)) ∧ ∀ z, (z < a0 * 48 ∨ a0 * 48 + 96 ≤ z) → (va_up (va_up q (a0 * 48 + i) (f i)) ((a0 + 1) * 48 + i) (h i)) z = wp z from ⟨by omega, lt_s (fun x hx => by rw [va_up_ne _ _ (show a0 * 48 + x ≠ (a0 + 1) * 48 + i by omega), va_up_ne _ _ (show a0 * 48 + x ≠ a0 * 48 + i by omega)]; exact hz2 x hx) (by rw [va_up_ne _ _ (show a0 * 48 + i ≠ (a0 + 1) * 48 + i by omega), va_up_self]; exact hi2 i hi), lt_s (fun x hx => by rw [va_up_ne _ _ (show (a0 + 1) * 48 + x ≠ (a0 + 1) * 48 + i by omega), va_up_ne _ _ (show (a0 + 1) * 48 + x ≠ a0 * 48 + i by omega)]; exact hz3 x hx) (by rw [va_up_self]; exact hi3 i hi), fun z hz => by rw [va_up_ne _ _ (show z ≠ (a0 + 1) * 48 + i by omega), va_up_ne _ _ (show z ≠ a0 * 48 + i by omega)]; exact hz4 z hz⟩) (show 48 - (i + 1) < 48 - i from by omega) H locs ls hB (lv_sub hl [1, 2, 3, 4, 5, 6, 7, 8, 9, 10, 11, 12, 13, 0] rfl)
          · refine lv_aload_n C0.1 C0.2.1 d_MO_two_191 rfl (lv_at hl 7 rfl) ?_
            refine gf_MO_116 C0 hB.1 0 rfl rfl d_MO_two_192 ?_
            refine lv_bipush (v := nI 62) C0.1 C0.2.1 d_MO_two_195 (by decide) ?_
            refine lv_icmp_gt (tgt := 217) C0.1 C0.2.1 d_MO_two_197 (by decide) (fun c_197 => ?_) (fun c_197 => ?_)
            · refine lv_iconst (v := nI 0) C0.1 C0.2.1 d_MO_two_217 (by decide) ?_
              refine lv_istore (lv' := [(14, .int (nI 0)), (13, .int (bI (x1.isSome && x2.isSome))), (12, .int (nI (wt (a0 + 1)))), (11, .int (nI (wt a0))), (10, .int (nI (wf (a0 + 1)))), (9, .int (nI (wf a0))), (8, .int (nI (wl (a0 + 1)))), (7, .int (nI (wl a0))), (0, .ref (b 0)), (1, .int (nI u0)), (2, .int (nI e0)), (3, .int (nI u1)), (4, .int (nI e1)), (6, .int (nI a0))]) C0.1 C0.2.1 d_MO_two_218 hl (by decide) rfl (fun ls hl => ?_)
              refine wlM (σ := Nat × (Nat → Nat)) (head := 220) (fun z_ => 48 - z_.1) (fun z_ => z_.1 ≤ 48 ∧ (∀ x, x < z_.1 → z_.2 (a0 * 48 + x) = wp (a0 * 48 + x)) ∧ (∀ x, x < z_.1 → z_.2 ((a0 + 1) * 48 + x) = wp ((a0 + 1) * 48 + x)) ∧ ∀ z, (z < a0 * 48 ∨ a0 * 48 + 96 ≤ z) → z_.2 z = wp z) (fun z_ => (mW b t n kd em br ii oo np ea eb li rn z_.2 wl1 wf1 wt1 wn d1 s3 s4 f h rest)) (fun z_ => [(0, .ref (b 0)), (1, .int (nI u0)), (2, .int (nI e0)), (3, .int (nI u1)), (4, .int (nI e1)), (6, .int (nI a0)), (7, .int (nI (wl a0))), (8, .int (nI (wl (a0 + 1)))), (9, .int (nI (wf a0))), (10, .int (nI (wf (a0 + 1)))), (11, .int (nI (wt a0))), (12, .int (nI (wt (a0 + 1)))), (13, .int (bI (x1.isSome && x2.isSome))), (14, .int (nI z_.1))]) ?_ (0, wp1) (show 0 ≤ 48 ∧ (∀ x, x < 0 → wp1 (a0 * 48 + x) = wp (a0 * 48 + x)) ∧ (∀ x, x < 0 → wp1 ((a0 + 1) * 48 + x) = wp ((a0 + 1) * 48 + x)) ∧ ∀ z, (z < a0 * 48 ∨ a0 * 48 + 96 ≤ z) → wp1 z = wp z from ⟨Nat.zero_le _, fun i h => absurd h (Nat.not_lt_zero _), fun i h => absurd h (Nat.not_lt_zero _), hF.2.1⟩) hB (lv_sub hl [8, 9, 10, 11, 12, 13, 7, 6, 5, 4, 3, 2, 1, 0] rfl)
              rintro ⟨i, q⟩ hi ih_220 H locs ls hB hl
              have hi : i ≤ 48 ∧ (∀ x, x < i → q (a0 * 48 + x) = wp (a0 * 48 + x)) ∧ (∀ x, x < i → q ((a0 + 1) * 48 + x) = wp ((a0 + 1) * 48 + x)) ∧ ∀ z, (z < a0 * 48 ∨ a0 * 48 + 96 ≤ z) → q z = wp z := hi
              obtain ⟨hz1, hz2, hz3, hz4⟩ := hi
              have hl : lv_has ls 15 [(0, .ref (b 0)), (1, .int (nI u0)), (2, .int (nI e0)), (3, .int (nI u1)), (4, .int (nI e1)), (6, .int (nI a0)), (7, .int (nI (wl a0))), (8, .int (nI (wl (a0 + 1)))), (9, .int (nI (wf a0))), (10, .int (nI (wf (a0 + 1)))), (11, .int (nI (wt a0))), (12, .int (nI (wt (a0 + 1)))), (13, .int (bI (x1.isSome && x2.isSome))), (14, .int (nI i))] := hl
              have hB : wB g classes A s.heap (mW b t n kd em br ii oo np ea eb li rn q wl1 wf1 wt1 wn d1 s3 s4 f h rest) H locs := hB
              refine lv_iload C0.1 C0.2.1 d_MO_two_220 (lv_at hl 13 rfl) ?_
              refine lv_bipush (v := nI 48) C0.1 C0.2.1 d_MO_two_222 (by decide) ?_
              refine lv_icmp_ge (tgt := 275) C0.1 C0.2.1 d_MO_two_224 (by decide) (fun c_224 => ?_) (fun c_224 => ?_)
              · have hi : i = 48 := by have := (nI_leI (by omega) (by omega)).mp c_224; omega
                refine lv_aload_n C0.1 C0.2.1 d_MO_two_275 rfl (lv_at hl 0 rfl) ?_
                refine gf_MO_42 C0 hB.1 0 rfl rfl d_MO_two_276 ?_
                refine lv_iload C0.1 C0.2.1 d_MO_two_279 (lv_at hl 5 rfl) ?_
                refine lv_iload C0.1 C0.2.1 d_MO_two_281 (lv_at hl 6 rfl) ?_
                refine ast_i (w' := (mW b t n kd em br ii oo np ea eb li rn q (va_up wl1 a0 (wl a0)) wf1 wt1 wn d1 s3 s4 f h rest)) C0 hB 11 0 rfl rfl (by omega) (by decide) up_nI rfl d_MO_two_283 (fun H locs hB => ?_)
                refine lv_aload_n C0.1 C0.2.1 d_MO_two_284 rfl (lv_at hl 0 rfl) ?_
                refine gf_MO_42 C0 hB.1 0 rfl rfl d_MO_two_285 ?_
                refine lv_iload C0.1 C0.2.1 d_MO_two_288 (lv_at hl 5 rfl) ?_
                refine lv_iconst (v := nI 1) C0.1 C0.2.1 d_MO_two_290 (by decide) ?_
                refine lv_iadd C0.1 C0.2.1 d_MO_two_291 ?_
                refine ti (show (nI a0) + (nI 1) = nI (a0 + 1) from nI_add _ _) ?_
                refine lv_iload C0.1 C0.2.1 d_MO_two_292 (lv_at hl 7 rfl) ?_
                refine ast_i (w' := (mW b t n kd em br ii oo np ea eb li rn q (va_up (va_up wl1 a0 (wl a0)) (a0 + 1) (wl (a0 + 1))) wf1 wt1 wn d1 s3 s4 f h rest)) C0 hB 11 0 rfl rfl (by omega) (by decide) up_nI rfl d_MO_two_294 (fun H locs hB => ?_)
                refine lv_aload_n C0.1 C0.2.1 d_MO_two_295 rfl (lv_at hl 0 rfl) ?_
                refine gf_MO_45 C0 hB.1 0 rfl rfl d_MO_two_296 ?_
                refine lv_iload C0.1 C0.2.1 d_MO_two_299 (lv_at hl 5 rfl) ?_
                refine lv_iload C0.1 C0.2.1 d_MO_two_301 (lv_at hl 8 rfl) ?_
                refine ast_i (w' := (mW b t n kd em br ii oo np ea eb li rn q (va_up (va_up wl1 a0 (wl a0)) (a0 + 1) (wl (a0 + 1))) (va_up wf1 a0 (wf a0)) wt1 wn d1 s3 s4 f h rest)) C0 hB 12 0 rfl rfl (by omega) (by decide) up_nI rfl d_MO_two_303 (fun H locs hB => ?_)
                refine lv_aload_n C0.1 C0.2.1 d_MO_two_304 rfl (lv_at hl 0 rfl) ?_
                refine gf_MO_45 C0 hB.1 0 rfl rfl d_MO_two_305 ?_
                refine lv_iload C0.1 C0.2.1 d_MO_two_308 (lv_at hl 5 rfl) ?_
                refine lv_iconst (v := nI 1) C0.1 C0.2.1 d_MO_two_310 (by decide) ?_
                refine lv_iadd C0.1 C0.2.1 d_MO_two_311 ?_
                refine ti (show (nI a0) + (nI 1) = nI (a0 + 1) from nI_add _ _) ?_
                refine lv_iload C0.1 C0.2.1 d_MO_two_312 (lv_at hl 9 rfl) ?_
                refine ast_i (w' := (mW b t n kd em br ii oo np ea eb li rn q (va_up (va_up wl1 a0 (wl a0)) (a0 + 1) (wl (a0 + 1))) (va_up (va_up wf1 a0 (wf a0)) (a0 + 1) (wf (a0 + 1))) wt1 wn d1 s3 s4 f h rest)) C0 hB 12 0 rfl rfl (by omega) (by decide) up_nI rfl d_MO_two_314 (fun H locs hB => ?_)
                refine lv_aload_n C0.1 C0.2.1 d_MO_two_315 rfl (lv_at hl 0 rfl) ?_
                refine gf_MO_48 C0 hB.1 0 rfl rfl d_MO_two_316 ?_
                refine lv_iload C0.1 C0.2.1 d_MO_two_319 (lv_at hl 5 rfl) ?_
                refine lv_iload C0.1 C0.2.1 d_MO_two_321 (lv_at hl 10 rfl) ?_
                refine ast_i (w' := (mW b t n kd em br ii oo np ea eb li rn q (va_up (va_up wl1 a0 (wl a0)) (a0 + 1) (wl (a0 + 1))) (va_up (va_up wf1 a0 (wf a0)) (a0 + 1) (wf (a0 + 1))) (va_up wt1 a0 (wt a0)) wn d1 s3 s4 f h rest)) C0 hB 13 0 rfl rfl (by omega) (by decide) up_nI rfl d_MO_two_323 (fun H locs hB => ?_)
                refine lv_aload_n C0.1 C0.2.1 d_MO_two_324 rfl (lv_at hl 0 rfl) ?_
                refine gf_MO_48 C0 hB.1 0 rfl rfl d_MO_two_325 ?_
                refine lv_iload C0.1 C0.2.1 d_MO_two_328 (lv_at hl 5 rfl) ?_
                refine lv_iconst (v := nI 1) C0.1 C0.2.1 d_MO_two_330 (by decide) ?_
                refine lv_iadd C0.1 C0.2.1 d_MO_two_331 ?_
                refine ti (show (nI a0) + (nI 1) = nI (a0 + 1) from nI_add _ _) ?_
                refine lv_iload C0.1 C0.2.1 d_MO_two_332 (lv_at hl 11 rfl) ?_
                refine ast_i (w' := (mW b t n kd em br ii oo np ea eb li rn q (va_up (va_up wl1 a0 (wl a0)) (a0 + 1) (wl (a0 + 1))) (va_up (va_up wf1 a0 (wf a0)) (a0 + 1) (wf (a0 + 1))) (va_up (va_up wt1 a0 (wt a0)) (a0 + 1) (wt (a0 + 1))) wn d1 s3 s4 f h rest)) C0 hB 13 0 rfl rfl (by omega) (by decide) up_nI rfl d_MO_two_334 (fun H locs hB => ?_)
                refine lv_iload C0.1 C0.2.1 d_MO_two_335 (lv_at hl 12 rfl) ?_
                refine lv_if_eq (tgt := 345) C0.1 C0.2.1 d_MO_two_337 (by decide) (fun c_337 => ?_) (fun c_337 => ?_)
                · refine lv_iconst (v := -1) C0.1 C0.2.1 d_MO_two_345 (by decide) ?_
                  have hnk : ¬ ((x1.isSome && x2.isSome) = true ∧ wn ≤ 62) := fun q => by have := (nI_ltI (by omega) (by omega)).mp c_197; omega
                  have hT : TwoP n kd ii oo np ea eb li u0 e0 u1 e1 a0 wp wl wf wt wn s1 s2 s3 s4 q (va_up (va_up wl1 a0 (wl a0)) (a0 + 1) (wl (a0 + 1))) (va_up (va_up wf1 a0 (wf a0)) (a0 + 1) (wf (a0 + 1))) (va_up (va_up wt1 a0 (wt a0)) (a0 + 1) (wt (a0 + 1))) wn x1 x2 (-1) := by
                    refine ⟨wp1, wl1, wf1, wt1, hF, Or.inr ⟨hnk, by rw [bI_0.mp c_337]; rfl, rfl, fun z => ?_, fun i => ⟨rs_l (fun i a c => (hF.2.2 i a c).1) i, rs_l (fun i a c => (hF.2.2 i a c).2.1) i, rs_l (fun i a c => (hF.2.2 i a c).2.2) i⟩⟩⟩
                    rcases rs_3 (a0 := a0) z with r | ⟨x, hx, r⟩ | ⟨x, hx, r⟩
                    · exact hz4 z r
                    · rw [r]; exact hz2 x (by omega)
                    · rw [r]; exact hz3 x (by omega)
                  exact eM_i C0 hr hlk (((s1, s2), (s3, s4), (d1, q, (va_up (va_up wl1 a0 (wl a0)) (a0 + 1) (wl (a0 + 1))), (va_up (va_up wf1 a0 (wf a0)) (a0 + 1) (wf (a0 + 1))), (va_up (va_up wt1 a0 (wt a0)) (a0 + 1) (wt (a0 + 1)))), (f, h), wn), x1, x2, -1) hB ⟨rfl, hs1, hs2, hT⟩ (Nat.le_refl _) (Nat.le_refl _) d_MO_two_346
                · refine lv_bipush (v := -5) C0.1 C0.2.1 d_MO_two_340 (by decide) ?_
                  refine lv_goto (tgt := 346) C0.1 C0.2.1 d_MO_two_342 (by decide) ?_
                  have hnk : ¬ ((x1.isSome && x2.isSome) = true ∧ wn ≤ 62) := fun q => by have := (nI_ltI (by omega) (by omega)).mp c_197; omega
                  have hT : TwoP n kd ii oo np ea eb li u0 e0 u1 e1 a0 wp wl wf wt wn s1 s2 s3 s4 q (va_up (va_up wl1 a0 (wl a0)) (a0 + 1) (wl (a0 + 1))) (va_up (va_up wf1 a0 (wf a0)) (a0 + 1) (wf (a0 + 1))) (va_up (va_up wt1 a0 (wt a0)) (a0 + 1) (wt (a0 + 1))) wn x1 x2 (-5) := by
                    refine ⟨wp1, wl1, wf1, wt1, hF, Or.inr ⟨hnk, by rw [bI_n0.mp c_337]; rfl, rfl, fun z => ?_, fun i => ⟨rs_l (fun i a c => (hF.2.2 i a c).1) i, rs_l (fun i a c => (hF.2.2 i a c).2.1) i, rs_l (fun i a c => (hF.2.2 i a c).2.2) i⟩⟩⟩
                    rcases rs_3 (a0 := a0) z with r | ⟨x, hx, r⟩ | ⟨x, hx, r⟩
                    · exact hz4 z r
                    · rw [r]; exact hz2 x (by omega)
                    · rw [r]; exact hz3 x (by omega)
                  exact eM_i C0 hr hlk (((s1, s2), (s3, s4), (d1, q, (va_up (va_up wl1 a0 (wl a0)) (a0 + 1) (wl (a0 + 1))), (va_up (va_up wf1 a0 (wf a0)) (a0 + 1) (wf (a0 + 1))), (va_up (va_up wt1 a0 (wt a0)) (a0 + 1) (wt (a0 + 1)))), (f, h), wn), x1, x2, -5) hB ⟨rfl, hs1, hs2, hT⟩ (Nat.le_refl _) (Nat.le_refl _) d_MO_two_346
              · have hi : i < 48 := (nI_nle' (by omega) (by omega)).mp c_224
                refine lv_aload_n C0.1 C0.2.1 d_MO_two_227 rfl (lv_at hl 0 rfl) ?_
                refine gf_MO_39 C0 hB.1 0 rfl rfl d_MO_two_228 ?_
                refine lv_iload C0.1 C0.2.1 d_MO_two_231 (lv_at hl 5 rfl) ?_
                refine lv_bipush (v := nI 48) C0.1 C0.2.1 d_MO_two_233 (by decide) ?_
                refine lv_imul C0.1 C0.2.1 d_MO_two_235 ?_
                refine ti (show (nI a0) * (nI 48) = nI (a0 * 48) from pk_mul _ _) ?_
                refine lv_iload C0.1 C0.2.1 d_MO_two_236 (lv_at hl 13 rfl) ?_
                refine lv_iadd C0.1 C0.2.1 d_MO_two_238 ?_
                refine ti (show (nI (a0 * 48)) + (nI i) = nI (a0 * 48 + i) from nI_add _ _) ?_
                refine lv_aload_n C0.1 C0.2.1 d_MO_two_239 rfl (lv_at hl 0 rfl) ?_
                refine gf_MO_60 C0 hB.1 0 rfl rfl d_MO_two_240 ?_
                refine lv_iload C0.1 C0.2.1 d_MO_two_243 (lv_at hl 13 rfl) ?_
                refine ald_i C0 hB.1 17 0 rfl rfl (by omega) (by decide) d_MO_two_245 ?_
                refine ast_i (w' := (mW b t n kd em br ii oo np ea eb li rn (va_up q (a0 * 48 + i) (f i)) wl1 wf1 wt1 wn d1 s3 s4 f h rest)) C0 hB 10 0 rfl rfl (by omega) (by decide) up_nI rfl d_MO_two_246 (fun H locs hB => ?_)
                refine lv_aload_n C0.1 C0.2.1 d_MO_two_247 rfl (lv_at hl 0 rfl) ?_
                refine gf_MO_39 C0 hB.1 0 rfl rfl d_MO_two_248 ?_
                refine lv_iload C0.1 C0.2.1 d_MO_two_251 (lv_at hl 5 rfl) ?_
                refine lv_iconst (v := nI 1) C0.1 C0.2.1 d_MO_two_253 (by decide) ?_
                refine lv_iadd C0.1 C0.2.1 d_MO_two_254 ?_
                refine ti (show (nI a0) + (nI 1) = nI (a0 + 1) from nI_add _ _) ?_
                refine lv_bipush (v := nI 48) C0.1 C0.2.1 d_MO_two_255 (by decide) ?_
                refine lv_imul C0.1 C0.2.1 d_MO_two_257 ?_
                refine ti (show (nI (a0 + 1)) * (nI 48) = nI ((a0 + 1) * 48) from pk_mul _ _) ?_
                refine lv_iload C0.1 C0.2.1 d_MO_two_258 (lv_at hl 13 rfl) ?_
                refine lv_iadd C0.1 C0.2.1 d_MO_two_260 ?_
                refine ti (show (nI ((a0 + 1) * 48)) + (nI i) = nI ((a0 + 1) * 48 + i) from nI_add _ _) ?_
                refine lv_aload_n C0.1 C0.2.1 d_MO_two_261 rfl (lv_at hl 0 rfl) ?_
                refine gf_MO_63 C0 hB.1 0 rfl rfl d_MO_two_262 ?_
                refine lv_iload C0.1 C0.2.1 d_MO_two_265 (lv_at hl 13 rfl) ?_
                refine ald_i C0 hB.1 18 0 rfl rfl (by omega) (by decide) d_MO_two_267 ?_
                refine ast_i (w' := (mW b t n kd em br ii oo np ea eb li rn (va_up (va_up q (a0 * 48 + i) (f i)) ((a0 + 1) * 48 + i) (h i)) wl1 wf1 wt1 wn d1 s3 s4 f h rest)) C0 hB 10 0 rfl rfl (by omega) (by decide) up_nI rfl d_MO_two_268 (fun H locs hB => ?_)
                refine lv_iinc (v := nI (i + 1)) (lv' := [(14, .int (nI (i + 1))), (0, .ref (b 0)), (1, .int (nI u0)), (2, .int (nI e0)), (3, .int (nI u1)), (4, .int (nI e1)), (6, .int (nI a0)), (7, .int (nI (wl a0))), (8, .int (nI (wl (a0 + 1)))), (9, .int (nI (wf a0))), (10, .int (nI (wf (a0 + 1)))), (11, .int (nI (wt a0))), (12, .int (nI (wt (a0 + 1)))), (13, .int (bI (x1.isSome && x2.isSome)))]) C0.1 C0.2.1 d_MO_two_269 hl (k := 13) rfl (inc1 _) (by decide) rfl (fun ls hl => ?_)
                refine lv_goto (tgt := 220) C0.1 C0.2.1 d_MO_two_272 (by decide) ?_
                exact ih_220 ((i + 1), (va_up (va_up q (a0 * 48 + i) (f i)) ((a0 + 1) * 48 + i) (h i))) (show (i + 1) ≤ 48 ∧ (∀ x, x < (i + 1) → (va_up (va_up q (a0 * 48 + i) (f i)) ((a0 + 1) * 48 + i) (h i)) (a0 * 48 + x) = wp (a0 * 48 + x)) ∧ (∀ x, x < (i + 1) → (va_up (va_up q (a0 * 48 + i) (f i)) ((a0 + 1) * 48 + i) (h i)) ((a0 + 1) * 48 + x) = wp ((a0 + 1) * 48 + x)) ∧ ∀ z, (z < a0 * 48 ∨ a0 * 48 + 96 ≤ z) → (va_up (va_up q (a0 * 48 + i) (f i)) ((a0 + 1) * 48 + i) (h i)) z = wp z from ⟨by omega, lt_s (fun x hx => by rw [va_up_ne _ _ (show a0 * 48 + x ≠ (a0 + 1) * 48 + i by omega), va_up_ne _ _ (show a0 * 48 + x ≠ a0 * 48 + i by omega)]; exact hz2 x hx) (by rw [va_up_ne _ _ (show a0 * 48 + i ≠ (a0 + 1) * 48 + i by omega), va_up_self]; exact hi2 i hi), lt_s (fun x hx => by rw [va_up_ne _ _ (show (a0 + 1) * 48 + x ≠ (a0 + 1) * 48 + i by omega), va_up_ne _ _ (show (a0 + 1) * 48 + x ≠ a0 * 48 + i by omega)]; exact hz3 x hx) (by rw [va_up_self]; exact hi3 i hi), fun z hz => by rw [va_up_ne _ _ (show z ≠ (a0 + 1) * 48 + i by omega), va_up_ne _ _ (show z ≠ a0 * 48 + i by omega)]; exact hz4 z hz⟩) (show 48 - (i + 1) < 48 - i from by omega) H locs ls hB (lv_sub hl [1, 2, 3, 4, 5, 6, 7, 8, 9, 10, 11, 12, 13, 0] rfl)
            · have hw62 : wn ≤ 62 := (nI_nlt' (by omega) (by omega)).mp c_197
              refine lv_aload_n C0.1 C0.2.1 d_MO_two_200 rfl (lv_at hl 7 rfl) ?_
              refine lv_dup C0.1 C0.2.1 d_MO_two_201 rfl ?_
              refine gf_MO_116 C0 hB.1 0 rfl rfl d_MO_two_202 ?_
              refine lv_iconst (v := nI 2) C0.1 C0.2.1 d_MO_two_205 (by decide) ?_
              refine lv_iadd C0.1 C0.2.1 d_MO_two_206 ?_
              refine ti (show (nI wn) + (nI 2) = nI (wn + 2) from nI_add _ _) ?_
              refine pf_MO_116 (w' := (mW b t n kd em br ii oo np ea eb li rn wp1 wl1 wf1 wt1 (wn + 2) d1 s3 s4 f h rest)) C0 hB 0 rfl (Nat.le_of_ble_eq_true rfl) rfl rfl rfl d_MO_two_207 (fun H locs hB => ?_)
              refine lv_aload_n C0.1 C0.2.1 d_MO_two_210 rfl (lv_at hl 7 rfl) ?_
              refine gf_MO_116 C0 hB.1 0 rfl rfl d_MO_two_211 ?_
              refine lv_iconst (v := nI 1) C0.1 C0.2.1 d_MO_two_214 (by decide) ?_
              refine lv_isub C0.1 C0.2.1 d_MO_two_215 ?_
              refine ti (show (nI (wn + 2)) - (nI 1) = nI (wn + 1) from (pk_sub (by omega) : nI (wn + 2) - nI 1 = nI (wn + 2 - 1))) ?_
              have hT : TwoP n kd ii oo np ea eb li u0 e0 u1 e1 a0 wp wl wf wt wn s1 s2 s3 s4 wp1 wl1 wf1 wt1 (wn + 2) x1 x2 (nI (wn + 1)) := ⟨_, _, _, _, hF, Or.inl ⟨bI_n0.mp c_188, hw62, rfl, rfl, rfl, rfl, rfl, rfl⟩⟩
              exact eM_i C0 hr hlk (((s1, s2), (s3, s4), (d1, wp1, wl1, wf1, wt1), (f, h), wn + 2), x1, x2, nI (wn + 1)) hB ⟨rfl, hs1, hs2, hT⟩ (Nat.le_refl _) (Nat.le_refl _) d_MO_two_216
        · have hj : j < 48 := (nI_nle' (by omega) (by omega)).mp c_62
          refine lv_aload_n C0.1 C0.2.1 d_MO_two_65 rfl (lv_at hl 0 rfl) ?_
          refine gf_MO_60 C0 hB.1 0 rfl rfl d_MO_two_66 ?_
          refine lv_iload C0.1 C0.2.1 d_MO_two_69 (lv_at hl 6 rfl) ?_
          refine lv_aload_n C0.1 C0.2.1 d_MO_two_71 rfl (lv_at hl 0 rfl) ?_
          refine gf_MO_39 C0 hB.1 0 rfl rfl d_MO_two_72 ?_
          refine lv_iload C0.1 C0.2.1 d_MO_two_75 (lv_at hl 5 rfl) ?_
          refine lv_bipush (v := nI 48) C0.1 C0.2.1 d_MO_two_77 (by decide) ?_
          refine lv_imul C0.1 C0.2.1 d_MO_two_79 ?_
          refine ti (show (nI a0) * (nI 48) = nI (a0 * 48) from pk_mul _ _) ?_
          refine lv_iload C0.1 C0.2.1 d_MO_two_80 (lv_at hl 6 rfl) ?_
          refine lv_iadd C0.1 C0.2.1 d_MO_two_82 ?_
          refine ti (show (nI (a0 * 48)) + (nI j) = nI (a0 * 48 + j) from nI_add _ _) ?_
          refine ald_i C0 hB.1 10 0 rfl rfl (by omega) (by decide) d_MO_two_83 ?_
          refine ast_i (w' := (mW b t n kd em br ii oo np ea eb li rn wp wl wf wt wn ct sT sP (va_up f j (wp (a0 * 48 + j))) h rest)) C0 hB 17 0 rfl rfl (by omega) (by decide) up_nI rfl d_MO_two_84 (fun H locs hB => ?_)
          refine lv_aload_n C0.1 C0.2.1 d_MO_two_85 rfl (lv_at hl 0 rfl) ?_
          refine gf_MO_63 C0 hB.1 0 rfl rfl d_MO_two_86 ?_
          refine lv_iload C0.1 C0.2.1 d_MO_two_89 (lv_at hl 6 rfl) ?_
          refine lv_aload_n C0.1 C0.2.1 d_MO_two_91 rfl (lv_at hl 0 rfl) ?_
          refine gf_MO_39 C0 hB.1 0 rfl rfl d_MO_two_92 ?_
          refine lv_iload C0.1 C0.2.1 d_MO_two_95 (lv_at hl 5 rfl) ?_
          refine lv_iconst (v := nI 1) C0.1 C0.2.1 d_MO_two_97 (by decide) ?_
          refine lv_iadd C0.1 C0.2.1 d_MO_two_98 ?_
          refine ti (show (nI a0) + (nI 1) = nI (a0 + 1) from nI_add _ _) ?_
          refine lv_bipush (v := nI 48) C0.1 C0.2.1 d_MO_two_99 (by decide) ?_
          refine lv_imul C0.1 C0.2.1 d_MO_two_101 ?_
          refine ti (show (nI (a0 + 1)) * (nI 48) = nI ((a0 + 1) * 48) from pk_mul _ _) ?_
          refine lv_iload C0.1 C0.2.1 d_MO_two_102 (lv_at hl 6 rfl) ?_
          refine lv_iadd C0.1 C0.2.1 d_MO_two_104 ?_
          refine ti (show (nI ((a0 + 1) * 48)) + (nI j) = nI ((a0 + 1) * 48 + j) from nI_add _ _) ?_
          refine ald_i C0 hB.1 10 0 rfl rfl (by omega) (by decide) d_MO_two_105 ?_
          refine ast_i (w' := (mW b t n kd em br ii oo np ea eb li rn wp wl wf wt wn ct sT sP (va_up f j (wp (a0 * 48 + j))) (va_up h j (wp ((a0 + 1) * 48 + j))) rest)) C0 hB 18 0 rfl rfl (by omega) (by decide) up_nI rfl d_MO_two_106 (fun H locs hB => ?_)
          refine lv_iinc (v := nI (j + 1)) (lv' := [(7, .int (nI (j + 1))), (0, .ref (b 0)), (1, .int (nI u0)), (2, .int (nI e0)), (3, .int (nI u1)), (4, .int (nI e1)), (6, .int (nI a0))]) C0.1 C0.2.1 d_MO_two_107 hl (k := 6) rfl (inc1 _) (by decide) rfl (fun ls hl => ?_)
          refine lv_goto (tgt := 58) C0.1 C0.2.1 d_MO_two_110 (by decide) ?_
          exact ih_58 ((j + 1), (va_up f j (wp (a0 * 48 + j))), (va_up h j (wp ((a0 + 1) * 48 + j)))) (show (j + 1) ≤ 48 ∧ (∀ x, x < (j + 1) → (va_up f j (wp (a0 * 48 + j))) x = wp (a0 * 48 + x)) ∧ ∀ x, x < (j + 1) → (va_up h j (wp ((a0 + 1) * 48 + j))) x = wp ((a0 + 1) * 48 + x) from ⟨by omega, lt_s (fun x hx => by rw [va_up_ne _ _ (show x ≠ j by omega)]; exact hi2 x hx) (va_up_self _ _ _), lt_s (fun x hx => by rw [va_up_ne _ _ (show x ≠ j by omega)]; exact hi3 x hx) (va_up_self _ _ _)⟩) (show 48 - (j + 1) < 48 - j from by omega) H locs ls hB (lv_sub hl [1, 2, 3, 4, 5, 6, 0] rfl)
      · refine lv_aload_n C0.1 C0.2.1 d_MO_two_35 rfl (lv_at hl 1 rfl) ?_
        refine gf_MO_116 C0 hB.1 0 rfl rfl d_MO_two_36 ?_
        refine lv_bipush (v := nI 63) C0.1 C0.2.1 d_MO_two_39 (by decide) ?_
        refine lv_icmp_ge (tgt := 51) C0.1 C0.2.1 d_MO_two_41 (by decide) (fun c_41 => ?_) (fun c_41 => ?_)
        · refine lv_bipush (v := nI 62) C0.1 C0.2.1 d_MO_two_51 (by decide) ?_
          exact ti (show nI 62 = nI a0 from by rw [ha0, if_neg (by have := (nI_leI (by omega) (by omega)).mp c_41; omega)]) T53
        · refine lv_aload_n C0.1 C0.2.1 d_MO_two_44 rfl (lv_at hl 1 rfl) ?_
          refine gf_MO_116 C0 hB.1 0 rfl rfl d_MO_two_45 ?_
          refine lv_goto (tgt := 53) C0.1 C0.2.1 d_MO_two_48 (by decide) ?_
          exact ti (show nI wn = nI a0 from by rw [ha0, if_pos ((nI_nle' (by omega) (by omega)).mp c_41)]) T53
    · exact absurd hok2 c_29
  · exact absurd hok c_10
end MODEL8

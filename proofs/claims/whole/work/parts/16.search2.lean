section SEARCH2
variable {l : Launch} {g : va_G} {t : Nat → ClassId} {a : Nat → Nat} {n : Nat} {kd : Nat → Nat} {em : Nat → Bool} {br : Nat → Bool} {ii : Nat → Int32} {oo : Nat → Int32} {np : Nat} {ea : Nat → Nat} {eb : Nat → Nat} {li : Nat → Nat} {rn : Nat → Bool} {wa : Nat → Option Nat} {wn : Nat} {sT : Nat → Bool} {sP : Nat → Bool} {ak : Nat} {ap : Nat → Nat} {af : Nat → Nat} {tt : Nat → Nat} {ac : Nat → Nat} {ct : Nat → Nat} {rp : Nat → Nat} {rt : Nat → Nat} {rest : va_W} {L : List Wy}
set_option maxHeartbeats 4000000 in
set_option maxRecDepth 100000 in
theorem c_AR_fill  : Mt l y_AR_fill w_AR_fill ({ frames := 0, cells := 0, slots := 0, locals := 0 }) g classes (tyL t) [.ref (a 20), .long (lN bf_far)] (wW a t n kd em br ii oo np ea eb li rn wa wn sT sP ak ap af tt ac ct rp rt rest L) (S := Unit) (fun v _ => v = none) (fun _ => (wW a t n kd em br ii oo np ea eb li rn wa wn sT sP ak ap af tt ac (fun _ => bf_far) rp rt rest L)) 0 0 := by
  refine Mt.of (cc := b_AR_fill) (maxL := 5) (ret := none) (own := R_AR) (by decide) rfl rfl (Nat.le_of_ble_eq_true rfl) ?_
  intro p e s m args below meth c C0 hr hlk hin A hA hB ls hl
  have hl : lv_has ls 5 [(0, .ref (a 20)), (1, .long (lN bf_far))] := hl
  refine lv_iconst (v := nI 0) C0.1 C0.2.1 d_AR_fill_0 (by decide) ?_
  refine lv_istore_n (lv' := [(3, .int (nI 0)), (0, .ref (a 20)), (1, .long (lN bf_far))]) C0.1 C0.2.1 d_AR_fill_1 rfl hl (by decide) rfl (fun ls hl => ?_)
  refine lv_aload_n C0.1 C0.2.1 d_AR_fill_2 rfl (lv_at hl 1 rfl) ?_
  refine alen (n := 48) C0 hB.1 20 2 rfl rfl rfl d_AR_fill_3 ?_
  refine lv_istore (lv' := [(4, .int (nI 48)), (3, .int (nI 0)), (0, .ref (a 20)), (1, .long (lN bf_far))]) C0.1 C0.2.1 d_AR_fill_4 hl (by decide) rfl (fun ls hl => ?_)
  refine wlM (σ := Nat × (Nat → Nat)) (head := 6) (fun z_ => 48 - z_.1) (fun z_ => z_.1 ≤ 48 ∧ ∀ x, x < z_.1 → z_.2 x = bf_far) (fun z_ => (wW a t n kd em br ii oo np ea eb li rn wa wn sT sP ak ap af tt ac z_.2 rp rt rest L)) (fun z_ => [(0, .ref (a 20)), (1, .long (lN bf_far)), (3, .int (nI z_.1)), (4, .int (nI 48))]) ?_ (0, ct) (show 0 ≤ 48 ∧ ∀ x, x < 0 → ct x = bf_far from ⟨Nat.zero_le _, fun i h => absurd h (Nat.not_lt_zero _)⟩) hB (lv_sub hl [2, 3, 1, 0] rfl)
  rintro ⟨j, f⟩ hi ih_6 H locs ls hB hl
  have hi : j ≤ 48 ∧ ∀ x, x < j → f x = bf_far := hi
  obtain ⟨hi1, hi2⟩ := hi
  have hl : lv_has ls 5 [(0, .ref (a 20)), (1, .long (lN bf_far)), (3, .int (nI j)), (4, .int (nI 48))] := hl
  have hB : wB g classes A s.heap (wW a t n kd em br ii oo np ea eb li rn wa wn sT sP ak ap af tt ac f rp rt rest L) H locs := hB
  refine lv_iload_n C0.1 C0.2.1 d_AR_fill_6 rfl (lv_at hl 2 rfl) ?_
  refine lv_iload C0.1 C0.2.1 d_AR_fill_7 (lv_at hl 3 rfl) ?_
  refine lv_icmp_ge (tgt := 22) C0.1 C0.2.1 d_AR_fill_9 (by decide) (fun c_9 => ?_) (fun c_9 => ?_)
  · have hj : j = 48 := by have := (nI_leI (by omega) (by omega)).mp c_9; omega
    exact eM_v C0 hr hlk () (wB.extl (q0 := 20) (f' := fun _ => lN bf_far) hB rfl (fun x hx => by rw [hi2 x (by omega)]) rfl) rfl (Nat.le_refl _) (Nat.le_refl _) d_AR_fill_22
  · have hj : j < 48 := (nI_nle' (by omega) (by omega)).mp c_9
    refine lv_aload_n C0.1 C0.2.1 d_AR_fill_12 rfl (lv_at hl 0 rfl) ?_
    refine lv_iload_n C0.1 C0.2.1 d_AR_fill_13 rfl (lv_at hl 2 rfl) ?_
    refine lv_lload_n C0.1 C0.2.1 d_AR_fill_14 rfl (lv_at hl 1 rfl) ?_
    refine ast_l (w' := (wW a t n kd em br ii oo np ea eb li rn wa wn sT sP ak ap af tt ac (va_up f j bf_far) rp rt rest L)) C0 hB 20 2 rfl rfl (by omega) (by decide) up_lN rfl d_AR_fill_15 (fun H locs hB => ?_)
    refine lv_iinc (v := nI (j + 1)) (lv' := [(3, .int (nI (j + 1))), (0, .ref (a 20)), (1, .long (lN bf_far)), (4, .int (nI 48))]) C0.1 C0.2.1 d_AR_fill_16 hl (k := 2) rfl (inc1 _) (by decide) rfl (fun ls hl => ?_)
    refine lv_goto (tgt := 6) C0.1 C0.2.1 d_AR_fill_19 (by decide) ?_
    exact ih_6 ((j + 1), (va_up f j bf_far)) (show (j + 1) ≤ 48 ∧ ∀ x, x < (j + 1) → (va_up f j bf_far) x = bf_far from ⟨by omega, lt_s (fun x hx => by rw [va_up_ne _ _ (show x ≠ j by omega)]; exact hi2 x hx) (va_up_self _ _ _)⟩) (show 48 - (j + 1) < 48 - j from by omega) H locs ls hB (lv_sub hl [1, 2, 0, 3] rfl)
set_option maxHeartbeats 4000000 in
set_option maxRecDepth 100000 in
theorem c_SE_lowerCosts (M : Nat) (hak : ak ≤ 192) (haf : ∀ j, j < ak → af j < 48) (htt : ∀ j, j < ak → tt j < 48) (hac : ∀ j, j < ak → ac j ≤ 100000000000) (hct : ∀ v, ct v ≤ bf_far) (hM : bf_bd M ct) (hMs : M ≤ 1000000000000000) : Mt l y_SE_lowerCosts w_SE_lowerCosts ({ frames := 0, cells := 0, slots := 0, locals := 0 }) g classes (tyL t) [.ref (a 3)] (wW a t n kd em br ii oo np ea eb li rn wa wn sT sP ak ap af tt ac ct rp rt rest L) (S := Nat → Nat) (fun v f => v = some (.int (bI (bf_ch af tt ac ct ak))) ∧ f = bf_it af tt ac ct ak) (fun f => (wW a t n kd em br ii oo np ea eb li rn wa wn sT sP ak ap af tt ac f rp rt rest L)) 0 0 := by
  refine Mt.of (cc := b_SE_lowerCosts) (maxL := 5) (ret := (some .boolean)) (own := R_SE) (by decide) rfl rfl (Nat.le_of_ble_eq_true rfl) ?_
  intro p e s m args below meth c C0 hr hlk hin A hA hB ls hl
  have hl : lv_has ls 5 [(0, .ref (a 3))] := hl
  refine lv_iconst (v := bI false) C0.1 C0.2.1 d_SE_lowerCosts_0 (by decide) ?_
  refine lv_istore_n (lv' := [(1, .int (bI false)), (0, .ref (a 3))]) C0.1 C0.2.1 d_SE_lowerCosts_1 rfl hl (by decide) rfl (fun ls hl => ?_)
  refine lv_iconst (v := nI 0) C0.1 C0.2.1 d_SE_lowerCosts_2 (by decide) ?_
  refine lv_istore_n (lv' := [(2, .int (nI 0)), (1, .int (bI false)), (0, .ref (a 3))]) C0.1 C0.2.1 d_SE_lowerCosts_3 rfl hl (by decide) rfl (fun ls hl => ?_)
  refine wlM (σ := Nat × (Nat → Nat) × Bool) (head := 4) (fun z_ => ak - z_.1) (fun z_ => z_.1 ≤ ak ∧ z_.2.1 = bf_it af tt ac ct z_.1 ∧ z_.2.2 = bf_ch af tt ac ct z_.1) (fun z_ => (wW a t n kd em br ii oo np ea eb li rn wa wn sT sP ak ap af tt ac z_.2.1 rp rt rest L)) (fun z_ => [(0, .ref (a 3)), (1, .int (bI z_.2.2)), (2, .int (nI z_.1))]) ?_ (0, ct, false) (show 0 ≤ ak ∧ ct = bf_it af tt ac ct 0 ∧ false = bf_ch af tt ac ct 0 from ⟨Nat.zero_le _, rfl, rfl⟩) hB (lv_sub hl [2, 1, 0] rfl)
  rintro ⟨j, f, b⟩ hi ih_4 H locs ls hB hl
  have hi : j ≤ ak ∧ f = bf_it af tt ac ct j ∧ b = bf_ch af tt ac ct j := hi
  obtain ⟨hi1, hi2, hi3⟩ := hi
  have hl : lv_has ls 5 [(0, .ref (a 3)), (1, .int (bI b)), (2, .int (nI j))] := hl
  have hB : wB g classes A s.heap (wW a t n kd em br ii oo np ea eb li rn wa wn sT sP ak ap af tt ac f rp rt rest L) H locs := hB
  refine lv_iload_n C0.1 C0.2.1 d_SE_lowerCosts_4 rfl (lv_at hl 2 rfl) ?_
  refine lv_aload_n C0.1 C0.2.1 d_SE_lowerCosts_5 rfl (lv_at hl 0 rfl) ?_
  refine gf_SE_46 C0 hB.1 3 rfl rfl d_SE_lowerCosts_6 ?_
  refine lv_icmp_ge (tgt := 82) C0.1 C0.2.1 d_SE_lowerCosts_9 (by decide) (fun c_9 => ?_) (fun c_9 => ?_)
  · have hj : j = ak := by have := (nI_leI (by omega) (by omega)).mp c_9; omega
    refine lv_iload_n C0.1 C0.2.1 d_SE_lowerCosts_82 rfl (lv_at hl 1 rfl) ?_
    exact eM_z C0 hr hlk (b := b) f rfl hB ⟨by rw [hi3, hj], by rw [hi2, hj]⟩ (Nat.le_refl _) (Nat.le_refl _) d_SE_lowerCosts_83
  · have hj : j < ak := (nI_nle' (by omega) (by omega)).mp c_9
    have hxa := haf j hj
    have hxt := htt j hj
    have hxc := hac j hj
    have hfl : ∀ v, f v ≤ bf_far := fun v => by rw [hi2]; exact bf_le_far hct j v
    have h1 : f (tt j) < 9223372036854775808 := Nat.lt_of_le_of_lt (hfl (tt j)) (by decide)
    have h2 : f (af j) < 9223372036854775808 := Nat.lt_of_le_of_lt (hfl (af j)) (by decide)
    refine lv_aload_n C0.1 C0.2.1 d_SE_lowerCosts_12 rfl (lv_at hl 0 rfl) ?_
    refine gf_SE_50 C0 hB.1 3 rfl rfl d_SE_lowerCosts_13 ?_
    refine lv_aload_n C0.1 C0.2.1 d_SE_lowerCosts_16 rfl (lv_at hl 0 rfl) ?_
    refine gf_SE_39 C0 hB.1 3 rfl rfl d_SE_lowerCosts_17 ?_
    refine lv_iload_n C0.1 C0.2.1 d_SE_lowerCosts_20 rfl (lv_at hl 2 rfl) ?_
    refine ald_i C0 hB.1 18 0 rfl rfl (by omega) (by decide) d_SE_lowerCosts_21 ?_
    refine ald_l C0 hB.1 20 2 rfl rfl (by omega) (by decide) d_SE_lowerCosts_22 ?_
    refine lv_lstore_n (lv' := [(3, .long (lN (f (tt j)))), (0, .ref (a 3)), (1, .int (bI b)), (2, .int (nI j))]) C0.1 C0.2.1 d_SE_lowerCosts_23 rfl hl (by decide) rfl (fun ls hl => ?_)
    refine lv_lload_n C0.1 C0.2.1 d_SE_lowerCosts_24 rfl (lv_at hl 0 rfl) ?_
    refine lv_ldc2 C0.1 C0.2.1 C0.2.2.2.1 (C0.2.2.2.2.1 _ k_SE_102) d_SE_lowerCosts_25 ?_
    refine tl (show (4611686018427387904 : Int64) = lN 4611686018427387904 from rfl) ?_
    refine W.lcmp C0.1 C0.2.1 d_SE_lowerCosts_28 ?_
    refine lv_if_eq (tgt := 76) C0.1 C0.2.1 d_SE_lowerCosts_29 (by decide) (fun c_29 => ?_) (fun c_29 => ?_)
    · have hno : ¬ (f (tt j) ≠ bf_far ∧ f (tt j) + ac j < f (af j)) := fun q => q.1 ((pk_lEQ (by omega) (by decide)).mp ((lg_cmp_eq _ _).mp c_29))
      refine lv_iinc (v := nI (j + 1)) (lv' := [(2, .int (nI (j + 1))), (3, .long (lN (f (tt j)))), (0, .ref (a 3)), (1, .int (bI b))]) C0.1 C0.2.1 d_SE_lowerCosts_76 hl (k := 3) rfl (inc1 _) (by decide) rfl (fun ls hl => ?_)
      refine lv_goto (tgt := 4) C0.1 C0.2.1 d_SE_lowerCosts_79 (by decide) ?_
      exact ih_4 ((j + 1), f, b) (show (j + 1) ≤ ak ∧ f = bf_it af tt ac ct (j + 1) ∧ b = bf_ch af tt ac ct (j + 1) from ⟨by omega, by rw [(bf_it_s0 (by rw [← hi2]; exact hno)).1]; exact hi2, by rw [(bf_it_s0 (by rw [← hi2]; exact hno)).2]; exact hi3⟩) (show ak - (j + 1) < ak - j from by omega) H locs ls hB (lv_sub hl [2, 3, 0] rfl)
    · have hfar : f (tt j) ≠ bf_far := fun q => c_29 ((lg_cmp_eq _ _).mpr (by rw [q]))
      have hbd : f (tt j) ≤ M + 192 * 100000000000 := by
        rcases bf_bd_it (af := af) (tt := tt) hM hac j (by omega) (tt j) with q | q
        · rw [← hi2] at q; exact absurd q hfar
        · rw [← hi2] at q; exact Nat.le_trans q (Nat.add_le_add_left (Nat.mul_le_mul_right _ (by omega)) _)
      refine lv_lload_n C0.1 C0.2.1 d_SE_lowerCosts_32 rfl (lv_at hl 0 rfl) ?_
      refine lv_aload_n C0.1 C0.2.1 d_SE_lowerCosts_33 rfl (lv_at hl 1 rfl) ?_
      refine gf_SE_42 C0 hB.1 3 rfl rfl d_SE_lowerCosts_34 ?_
      refine lv_iload_n C0.1 C0.2.1 d_SE_lowerCosts_37 rfl (lv_at hl 3 rfl) ?_
      refine ald_l C0 hB.1 19 2 rfl rfl (by omega) (by decide) d_SE_lowerCosts_38 ?_
      refine lv_ladd C0.1 C0.2.1 d_SE_lowerCosts_39 ?_
      refine tl (show (lN (f (tt j))) + (lN (ac j)) = lN (f (tt j) + (ac j)) from lN_add _ _) ?_
      refine lv_aload_n C0.1 C0.2.1 d_SE_lowerCosts_40 rfl (lv_at hl 1 rfl) ?_
      refine gf_SE_50 C0 hB.1 3 rfl rfl d_SE_lowerCosts_41 ?_
      refine lv_aload_n C0.1 C0.2.1 d_SE_lowerCosts_44 rfl (lv_at hl 1 rfl) ?_
      refine gf_SE_36 C0 hB.1 3 rfl rfl d_SE_lowerCosts_45 ?_
      refine lv_iload_n C0.1 C0.2.1 d_SE_lowerCosts_48 rfl (lv_at hl 3 rfl) ?_
      refine ald_i C0 hB.1 17 0 rfl rfl (by omega) (by decide) d_SE_lowerCosts_49 ?_
      refine ald_l C0 hB.1 20 2 rfl rfl (by omega) (by decide) d_SE_lowerCosts_50 ?_
      refine W.lcmp C0.1 C0.2.1 d_SE_lowerCosts_51 ?_
      refine lv_if_ge (tgt := 76) C0.1 C0.2.1 d_SE_lowerCosts_52 (by decide) (fun c_52 => ?_) (fun c_52 => ?_)
      · have hno : ¬ (f (tt j) ≠ bf_far ∧ f (tt j) + ac j < f (af j)) := fun q => by have h5 := (pk_lLE (by omega) (by omega)).mp ((lg_cmp_ge _ _).mp c_52); omega
        refine lv_iinc (v := nI (j + 1)) (lv' := [(2, .int (nI (j + 1))), (3, .long (lN (f (tt j)))), (0, .ref (a 3)), (1, .int (bI b))]) C0.1 C0.2.1 d_SE_lowerCosts_76 hl (k := 3) rfl (inc1 _) (by decide) rfl (fun ls hl => ?_)
        refine lv_goto (tgt := 4) C0.1 C0.2.1 d_SE_lowerCosts_79 (by decide) ?_
        exact ih_4 ((j + 1), f, b) (show (j + 1) ≤ ak ∧ f = bf_it af tt ac ct (j + 1) ∧ b = bf_ch af tt ac ct (j + 1) from ⟨by omega, by rw [(bf_it_s0 (by rw [← hi2]; exact hno)).1]; exact hi2, by rw [(bf_it_s0 (by rw [← hi2]; exact hno)).2]; exact hi3⟩) (show ak - (j + 1) < ak - j from by omega) H locs ls hB (lv_sub hl [2, 3, 0] rfl)
      · have hless : f (tt j) + ac j < f (af j) := by
          rcases Nat.lt_or_ge (f (tt j) + ac j) (f (af j)) with q | q
          · exact q
          · exact absurd ((lg_cmp_ge _ _).mpr ((pk_lLE (by omega) (by omega)).mpr q)) c_52
        refine lv_aload_n C0.1 C0.2.1 d_SE_lowerCosts_55 rfl (lv_at hl 1 rfl) ?_
        refine gf_SE_50 C0 hB.1 3 rfl rfl d_SE_lowerCosts_56 ?_
        refine lv_aload_n C0.1 C0.2.1 d_SE_lowerCosts_59 rfl (lv_at hl 1 rfl) ?_
        refine gf_SE_36 C0 hB.1 3 rfl rfl d_SE_lowerCosts_60 ?_
        refine lv_iload_n C0.1 C0.2.1 d_SE_lowerCosts_63 rfl (lv_at hl 3 rfl) ?_
        refine ald_i C0 hB.1 17 0 rfl rfl (by omega) (by decide) d_SE_lowerCosts_64 ?_
        refine lv_lload_n C0.1 C0.2.1 d_SE_lowerCosts_65 rfl (lv_at hl 0 rfl) ?_
        refine lv_aload_n C0.1 C0.2.1 d_SE_lowerCosts_66 rfl (lv_at hl 1 rfl) ?_
        refine gf_SE_42 C0 hB.1 3 rfl rfl d_SE_lowerCosts_67 ?_
        refine lv_iload_n C0.1 C0.2.1 d_SE_lowerCosts_70 rfl (lv_at hl 3 rfl) ?_
        refine ald_l C0 hB.1 19 2 rfl rfl (by omega) (by decide) d_SE_lowerCosts_71 ?_
        refine lv_ladd C0.1 C0.2.1 d_SE_lowerCosts_72 ?_
        refine tl (show (lN (f (tt j))) + (lN (ac j)) = lN (f (tt j) + (ac j)) from lN_add _ _) ?_
        refine ast_l (w' := (wW a t n kd em br ii oo np ea eb li rn wa wn sT sP ak ap af tt ac (va_up f (af j) (f (tt j) + (ac j))) rp rt rest L)) C0 hB 20 2 rfl rfl (by omega) (by decide) up_lN rfl d_SE_lowerCosts_73 (fun H locs hB => ?_)
        refine lv_iconst (v := bI true) C0.1 C0.2.1 d_SE_lowerCosts_74 (by decide) ?_
        refine lv_istore_n (lv' := [(1, .int (bI true)), (3, .long (lN (f (tt j)))), (0, .ref (a 3)), (2, .int (nI j))]) C0.1 C0.2.1 d_SE_lowerCosts_75 rfl hl (by decide) rfl (fun ls hl => ?_)
        refine lv_iinc (v := nI (j + 1)) (lv' := [(2, .int (nI (j + 1))), (1, .int (bI true)), (3, .long (lN (f (tt j)))), (0, .ref (a 3))]) C0.1 C0.2.1 d_SE_lowerCosts_76 hl (k := 3) rfl (inc1 _) (by decide) rfl (fun ls hl => ?_)
        refine lv_goto (tgt := 4) C0.1 C0.2.1 d_SE_lowerCosts_79 (by decide) ?_
        exact ih_4 ((j + 1), (va_up f (af j) (f (tt j) + (ac j))), true) (show (j + 1) ≤ ak ∧ (va_up f (af j) (f (tt j) + (ac j))) = bf_it af tt ac ct (j + 1) ∧ true = bf_ch af tt ac ct (j + 1) from ⟨by omega, by rw [hi2]; exact (bf_it_s1 (by rw [← hi2]; exact ⟨hfar, hless⟩)).1.symm, (bf_it_s1 (by rw [← hi2]; exact ⟨hfar, hless⟩)).2.symm⟩) (show ak - (j + 1) < ak - j from by omega) H locs ls hB (lv_sub hl [3, 1, 0] rfl)
set_option maxHeartbeats 4000000 in
set_option maxRecDepth 100000 in
theorem c_SE_reckonCostsTo (e0 : Nat) (he0 : e0 < 48) (hak : ak ≤ 192) (haf : ∀ j, j < ak → af j < 48) (htt : ∀ j, j < ak → tt j < 48) (hac : ∀ j, j < ak → ac j ≤ 100000000000) (hpos : ∀ j, j < ak → 0 < ac j) : Mt l y_SE_reckonCostsTo w_SE_reckonCostsTo ({ frames := 1, cells := 0, slots := 0, locals := 24 }) g classes (tyL t) [.ref (a 3), .int (nI e0)] (wW a t n kd em br ii oo np ea eb li rn wa wn sT sP ak ap af tt ac ct rp rt rest L) (S := Nat → Nat) (fun v f => v = none ∧ bf_ex ak af tt ac e0 f ∧ f e0 = 0 ∧ bf_bd 1000000000000000 f) (fun f => (wW a t n kd em br ii oo np ea eb li rn wa wn sT sP ak ap af tt ac f rp rt rest L)) 0 0 := by
  refine Mt.of (cc := b_SE_reckonCostsTo) (maxL := 4) (ret := none) (own := R_SE) (by decide) rfl rfl (Nat.le_of_ble_eq_true rfl) ?_
  intro p e s m args below meth c C0 hr hlk hin A hA hB ls hl
  have hl : lv_has ls 4 [(0, .ref (a 3)), (1, .int (nI e0))] := hl
  refine lv_aload_n C0.1 C0.2.1 d_SE_reckonCostsTo_0 rfl (lv_at hl 0 rfl) ?_
  refine gf_SE_50 C0 hB.1 3 rfl rfl d_SE_reckonCostsTo_1 ?_
  refine lv_ldc2 C0.1 C0.2.1 C0.2.2.2.1 (C0.2.2.2.2.1 _ k_SE_102) d_SE_reckonCostsTo_4 ?_
  refine tl (show (4611686018427387904 : Int64) = lN 4611686018427387904 from rfl) ?_
  refine cMS (As := [.ref (a 20), .long (lN 4611686018427387904)]) (rest := []) C0 (c_AR_fill) (q_SE_121 C0.2.2.2.2.1 rfl rfl ⟨Nat.le_of_ble_eq_true rfl, Nat.le_of_ble_eq_true rfl⟩) hB hl.1 rfl rfl (Nat.le_of_ble_eq_true rfl) d_SE_reckonCostsTo_7 ⟨Nat.zero_le _, Nat.zero_le _⟩ (fun v_7 u_7 H locs hp_7 hB => ?_)
  obtain rfl := hp_7
  have hB : wB g classes A s.heap (wW a t n kd em br ii oo np ea eb li rn wa wn sT sP ak ap af tt ac (fun _ => bf_far) rp rt rest L) H locs := hB
  refine W.eq (g2 := F0 m 10 ls []) rfl ?_
  refine lv_aload_n C0.1 C0.2.1 d_SE_reckonCostsTo_10 rfl (lv_at hl 0 rfl) ?_
  refine gf_SE_50 C0 hB.1 3 rfl rfl d_SE_reckonCostsTo_11 ?_
  refine lv_iload_n C0.1 C0.2.1 d_SE_reckonCostsTo_14 rfl (lv_at hl 1 rfl) ?_
  refine lv_lconst (v := lN 0) C0.1 C0.2.1 d_SE_reckonCostsTo_15 rfl ?_
  refine ast_l (w' := (wW a t n kd em br ii oo np ea eb li rn wa wn sT sP ak ap af tt ac (va_up (fun _ => bf_far) e0 0) rp rt rest L)) C0 hB 20 2 rfl rfl (by omega) (by decide) up_lN rfl d_SE_reckonCostsTo_16 (fun H locs hB => ?_)
  refine lv_iconst (v := bI true) C0.1 C0.2.1 d_SE_reckonCostsTo_17 (by decide) ?_
  refine lv_istore_n (lv' := [(2, .int (bI true)), (0, .ref (a 3)), (1, .int (nI e0))]) C0.1 C0.2.1 d_SE_reckonCostsTo_18 rfl hl (by decide) rfl (fun ls hl => ?_)
  refine lv_iconst (v := nI 0) C0.1 C0.2.1 d_SE_reckonCostsTo_19 (by decide) ?_
  refine lv_istore_n (lv' := [(3, .int (nI 0)), (2, .int (bI true)), (0, .ref (a 3)), (1, .int (nI e0))]) C0.1 C0.2.1 d_SE_reckonCostsTo_20 rfl hl (by decide) rfl (fun ls hl => ?_)
  refine wlM (σ := Nat × (Nat → Nat) × Bool) (head := 21) (fun z_ => 48 - z_.1) (fun z_ => z_.1 ≤ 48 ∧ (∀ v, z_.2.1 v ≤ bf_far) ∧ bf_snd ak af tt ac e0 z_.2.1 ∧ z_.2.1 e0 = 0 ∧ bf_bd (z_.1 * (192 * 100000000000)) z_.2.1 ∧ bf_cmp ak af tt ac e0 z_.1 z_.2.1 ∧ (z_.2.2 = false → ∀ j, j < ak → z_.2.1 (tt j) ≠ bf_far → z_.2.1 (af j) ≤ z_.2.1 (tt j) + ac j)) (fun z_ => (wW a t n kd em br ii oo np ea eb li rn wa wn sT sP ak ap af tt ac z_.2.1 rp rt rest L)) (fun z_ => [(0, .ref (a 3)), (2, .int (bI z_.2.2)), (3, .int (nI z_.1))]) ?_ (0, (va_up (fun _ => bf_far) e0 0), true) (show 0 ≤ 48 ∧ (∀ v, (va_up (fun _ => bf_far) e0 0) v ≤ bf_far) ∧ bf_snd ak af tt ac e0 (va_up (fun _ => bf_far) e0 0) ∧ (va_up (fun _ => bf_far) e0 0) e0 = 0 ∧ bf_bd (0 * (192 * 100000000000)) (va_up (fun _ => bf_far) e0 0) ∧ bf_cmp ak af tt ac e0 0 (va_up (fun _ => bf_far) e0 0) ∧ (true = false → ∀ j, j < ak → (va_up (fun _ => bf_far) e0 0) (tt j) ≠ bf_far → (va_up (fun _ => bf_far) e0 0) (af j) ≤ (va_up (fun _ => bf_far) e0 0) (tt j) + ac j) from rc_0 hak) hB (lv_sub hl [2, 1, 0] rfl)
  rintro ⟨r, f, b⟩ hi ih_21 H locs ls hB hl
  have hi : r ≤ 48 ∧ (∀ v, f v ≤ bf_far) ∧ bf_snd ak af tt ac e0 f ∧ f e0 = 0 ∧ bf_bd (r * (192 * 100000000000)) f ∧ bf_cmp ak af tt ac e0 r f ∧ (b = false → ∀ j, j < ak → f (tt j) ≠ bf_far → f (af j) ≤ f (tt j) + ac j) := hi
  obtain ⟨hi1, hi2, hi3, hi4, hi5, hi6, hi7⟩ := hi
  have hl : lv_has ls 4 [(0, .ref (a 3)), (2, .int (bI b)), (3, .int (nI r))] := hl
  have hB : wB g classes A s.heap (wW a t n kd em br ii oo np ea eb li rn wa wn sT sP ak ap af tt ac f rp rt rest L) H locs := hB
  refine lv_iload_n C0.1 C0.2.1 d_SE_reckonCostsTo_21 rfl (lv_at hl 2 rfl) ?_
  refine lv_bipush (v := nI 48) C0.1 C0.2.1 d_SE_reckonCostsTo_22 (by decide) ?_
  refine lv_icmp_ge (tgt := 42) C0.1 C0.2.1 d_SE_reckonCostsTo_24 (by decide) (fun c_24 => ?_) (fun c_24 => ?_)
  · have hr48 : r = 48 := by have := (nI_leI (by omega) (by omega)).mp c_24; omega
    have hex : bf_ex ak af tt ac e0 f := bf_ex_cmp (n := 48) hi2 hi3 hpos (fun j hj => ⟨haf j hj, htt j hj⟩) he0 (hr48 ▸ hi6)
    exact eM_v C0 hr hlk f hB ⟨rfl, hex, hi4, fun v => by rcases hi5 v with q | q; exact Or.inl q; exact Or.inr (by have : r * (192 * 100000000000) ≤ 48 * (192 * 100000000000) := Nat.mul_le_mul_right _ hi1; omega)⟩ (Nat.le_refl _) (Nat.le_refl _) d_SE_reckonCostsTo_42
  · have hr1 : r < 48 := (nI_nle' (by omega) (by omega)).mp c_24
    refine lv_iload_n C0.1 C0.2.1 d_SE_reckonCostsTo_27 rfl (lv_at hl 1 rfl) ?_
    refine lv_if_eq (tgt := 42) C0.1 C0.2.1 d_SE_reckonCostsTo_28 (by decide) (fun c_28 => ?_) (fun c_28 => ?_)
    · have hex : bf_ex ak af tt ac e0 f := ⟨hi2, hi3, fun v w hw => bf_fix hi2 hi4 (hi7 (bI_0.mp c_28)) w v hw⟩
      exact eM_v C0 hr hlk f hB ⟨rfl, hex, hi4, fun v => by rcases hi5 v with q | q; exact Or.inl q; exact Or.inr (by have : r * (192 * 100000000000) ≤ 48 * (192 * 100000000000) := Nat.mul_le_mul_right _ hi1; omega)⟩ (Nat.le_refl _) (Nat.le_refl _) d_SE_reckonCostsTo_42
    · refine lv_aload_n C0.1 C0.2.1 d_SE_reckonCostsTo_31 rfl (lv_at hl 0 rfl) ?_
      refine cM (As := []) (rest := []) C0 (c_SE_lowerCosts (r * (192 * 100000000000)) hak haf htt hac hi2 hi5 (by omega)) (q_SE_127 C0.2.2.2.2.1 rfl rfl ⟨Nat.le_of_ble_eq_true rfl, Nat.le_of_ble_eq_true rfl⟩) (ci := 3) (q0 := 3) rfl rfl rfl hB hl.1 rfl rfl (Nat.le_of_ble_eq_true rfl) d_SE_reckonCostsTo_32 ⟨Nat.zero_le _, Nat.zero_le _⟩ (fun v_32 f1 H locs hp_32 hB => ?_)
      obtain ⟨rfl, hf1⟩ := hp_32
      have hB : wB g classes A s.heap (wW a t n kd em br ii oo np ea eb li rn wa wn sT sP ak ap af tt ac f1 rp rt rest L) H locs := hB
      refine W.eq (g2 := F0 m 35 ls [.int (bI (bf_ch af tt ac f ak))]) rfl ?_
      refine lv_istore_n (lv' := [(2, .int (bI (bf_ch af tt ac f ak))), (0, .ref (a 3)), (3, .int (nI r))]) C0.1 C0.2.1 d_SE_reckonCostsTo_35 rfl hl (by decide) rfl (fun ls hl => ?_)
      refine lv_iinc (v := nI (r + 1)) (lv' := [(3, .int (nI (r + 1))), (2, .int (bI (bf_ch af tt ac f ak))), (0, .ref (a 3))]) C0.1 C0.2.1 d_SE_reckonCostsTo_36 hl (k := 2) rfl (inc1 _) (by decide) rfl (fun ls hl => ?_)
      refine lv_goto (tgt := 21) C0.1 C0.2.1 d_SE_reckonCostsTo_39 (by decide) ?_
      exact ih_21 ((r + 1), f1, (bf_ch af tt ac f ak)) (show (r + 1) ≤ 48 ∧ (∀ v, f1 v ≤ bf_far) ∧ bf_snd ak af tt ac e0 f1 ∧ f1 e0 = 0 ∧ bf_bd ((r + 1) * (192 * 100000000000)) f1 ∧ bf_cmp ak af tt ac e0 (r + 1) f1 ∧ ((bf_ch af tt ac f ak) = false → ∀ j, j < ak → f1 (tt j) ≠ bf_far → f1 (af j) ≤ f1 (tt j) + ac j) from rc_s hak hac hi2 hi3 hi4 hi5 hi6 (by omega) hf1) (show 48 - (r + 1) < 48 - r from by omega) H locs ls hB (lv_sub hl [2, 1, 0] rfl)
set_option maxHeartbeats 4000000 in
set_option maxRecDepth 100000 in
theorem c_SE_firstLeastArc (v j0 : Nat) (hv : v < 48) (hj0 : j0 < ak) (ht : bf_tight af tt ac ct v j0) (hm : ∀ i, i < j0 → ¬ bf_tight af tt ac ct v i) (hak : ak ≤ 192) (haf : ∀ j, j < ak → af j < 48) (htt : ∀ j, j < ak → tt j < 48) (hac : ∀ j, j < ak → ac j ≤ 100000000000) (hct : ∀ v, ct v ≤ bf_far) (hM : bf_bd 1000000000000000 ct) : Rd l y_SE_firstLeastArc w_SE_firstLeastArc ({ frames := 0, cells := 0, slots := 0, locals := 0 }) g classes (tyL t) [.ref (a 3), .int (nI v)] (wW a t n kd em br ii oo np ea eb li rn wa wn sT sP ak ap af tt ac ct rp rt rest L) (some (.int (nI j0))) := by
  refine Rd.of (cc := b_SE_firstLeastArc) (maxL := 5) (ret := (some .int)) (own := R_SE) (by decide) rfl rfl (Nat.le_of_ble_eq_true rfl) ?_
  intro p e s m args below meth c C0 hr hlk hP ls hl
  have hl : lv_has ls 5 [(0, .ref (a 3)), (1, .int (nI v))] := hl
  refine lv_iconst (v := nI 0) C0.1 C0.2.1 d_SE_firstLeastArc_0 (by decide) ?_
  refine lv_istore_n (lv' := [(2, .int (nI 0)), (0, .ref (a 3)), (1, .int (nI v))]) C0.1 C0.2.1 d_SE_firstLeastArc_1 rfl hl (by decide) rfl (fun ls hl => ?_)
  refine wlR (σ := Nat) (head := 2) (fun z_ => j0 + 1 - z_) (fun z_ => z_ ≤ j0) (fun z_ => [(0, .ref (a 3)), (1, .int (nI v)), (2, .int (nI z_))]) ?_ 0 (show 0 ≤ j0 from Nat.zero_le _) (lv_sub hl [1, 2, 0] rfl)
  rintro j hi ih_2 ls hl
  have hi : j ≤ j0 := hi
  have hl : lv_has ls 5 [(0, .ref (a 3)), (1, .int (nI v)), (2, .int (nI j))] := hl
  refine lv_iload_n C0.1 C0.2.1 d_SE_firstLeastArc_2 rfl (lv_at hl 2 rfl) ?_
  refine lv_aload_n C0.1 C0.2.1 d_SE_firstLeastArc_3 rfl (lv_at hl 0 rfl) ?_
  refine gf_SE_46 C0 hP 3 rfl rfl d_SE_firstLeastArc_4 ?_
  refine lv_icmp_ge (tgt := 66) C0.1 C0.2.1 d_SE_firstLeastArc_7 (by decide) (fun c_7 => ?_) (fun c_7 => ?_)
  · exact absurd ((nI_leI (by omega) (by omega)).mp c_7) (by omega)
  · have hj : j < ak := by omega
    have hxa := haf j hj
    have hxt := htt j hj
    have hxc := hac j hj
    have h1 : ct (tt j) < 9223372036854775808 := Nat.lt_of_le_of_lt (hct (tt j)) (by decide)
    have h2 : ct v < 9223372036854775808 := Nat.lt_of_le_of_lt (hct v) (by decide)
    refine lv_aload_n C0.1 C0.2.1 d_SE_firstLeastArc_10 rfl (lv_at hl 0 rfl) ?_
    refine gf_SE_50 C0 hP 3 rfl rfl d_SE_firstLeastArc_11 ?_
    refine lv_aload_n C0.1 C0.2.1 d_SE_firstLeastArc_14 rfl (lv_at hl 0 rfl) ?_
    refine gf_SE_39 C0 hP 3 rfl rfl d_SE_firstLeastArc_15 ?_
    refine lv_iload_n C0.1 C0.2.1 d_SE_firstLeastArc_18 rfl (lv_at hl 2 rfl) ?_
    refine ald_i C0 hP 18 0 rfl rfl (by omega) (by decide) d_SE_firstLeastArc_19 ?_
    refine ald_l C0 hP 20 2 rfl rfl (by omega) (by decide) d_SE_firstLeastArc_20 ?_
    refine lv_lstore_n (lv' := [(3, .long (lN (ct (tt j)))), (0, .ref (a 3)), (1, .int (nI v)), (2, .int (nI j))]) C0.1 C0.2.1 d_SE_firstLeastArc_21 rfl hl (by decide) rfl (fun ls hl => ?_)
    refine lv_aload_n C0.1 C0.2.1 d_SE_firstLeastArc_22 rfl (lv_at hl 1 rfl) ?_
    refine gf_SE_36 C0 hP 3 rfl rfl d_SE_firstLeastArc_23 ?_
    refine lv_iload_n C0.1 C0.2.1 d_SE_firstLeastArc_26 rfl (lv_at hl 3 rfl) ?_
    refine ald_i C0 hP 17 0 rfl rfl (by omega) (by decide) d_SE_firstLeastArc_27 ?_
    refine lv_iload_n C0.1 C0.2.1 d_SE_firstLeastArc_28 rfl (lv_at hl 2 rfl) ?_
    refine lv_icmp_ne (tgt := 60) C0.1 C0.2.1 d_SE_firstLeastArc_29 (by decide) (fun c_29 => ?_) (fun c_29 => ?_)
    · have hnt : ¬ bf_tight af tt ac ct v j := fun q => c_29 (by rw [q.1])
      refine lv_iinc (v := nI (j + 1)) (lv' := [(2, .int (nI (j + 1))), (3, .long (lN (ct (tt j)))), (0, .ref (a 3)), (1, .int (nI v))]) C0.1 C0.2.1 d_SE_firstLeastArc_60 hl (k := 3) rfl (inc1 _) (by decide) rfl (fun ls hl => ?_)
      refine lv_goto (tgt := 2) C0.1 C0.2.1 d_SE_firstLeastArc_63 (by decide) ?_
      exact ih_2 (j + 1) (show (j + 1) ≤ j0 from by have : j ≠ j0 := fun q => hnt (q ▸ ht); omega) (show j0 + 1 - (j + 1) < j0 + 1 - j from by omega) ls (lv_sub hl [2, 3, 0] rfl)
    · have e1 : af j = v := (nI_eq (by omega) (by omega)).mp c_29
      refine lv_lload_n C0.1 C0.2.1 d_SE_firstLeastArc_32 rfl (lv_at hl 0 rfl) ?_
      refine lv_ldc2 C0.1 C0.2.1 C0.2.2.2.1 (C0.2.2.2.2.1 _ k_SE_102) d_SE_firstLeastArc_33 ?_
      refine tl (show (4611686018427387904 : Int64) = lN 4611686018427387904 from rfl) ?_
      refine W.lcmp C0.1 C0.2.1 d_SE_firstLeastArc_36 ?_
      refine lv_if_eq (tgt := 60) C0.1 C0.2.1 d_SE_firstLeastArc_37 (by decide) (fun c_37 => ?_) (fun c_37 => ?_)
      · have hnt : ¬ bf_tight af tt ac ct v j := fun q => q.2.1 ((pk_lEQ (by omega) (by decide)).mp ((lg_cmp_eq _ _).mp c_37))
        refine lv_iinc (v := nI (j + 1)) (lv' := [(2, .int (nI (j + 1))), (3, .long (lN (ct (tt j)))), (0, .ref (a 3)), (1, .int (nI v))]) C0.1 C0.2.1 d_SE_firstLeastArc_60 hl (k := 3) rfl (inc1 _) (by decide) rfl (fun ls hl => ?_)
        refine lv_goto (tgt := 2) C0.1 C0.2.1 d_SE_firstLeastArc_63 (by decide) ?_
        exact ih_2 (j + 1) (show (j + 1) ≤ j0 from by have : j ≠ j0 := fun q => hnt (q ▸ ht); omega) (show j0 + 1 - (j + 1) < j0 + 1 - j from by omega) ls (lv_sub hl [2, 3, 0] rfl)
      · have hfar : ct (tt j) ≠ bf_far := fun q => c_37 ((lg_cmp_eq _ _).mpr (by rw [q]))
        have hbd : ct (tt j) ≤ 1000000000000000 := (hM (tt j)).resolve_left hfar
        refine lv_lload_n C0.1 C0.2.1 d_SE_firstLeastArc_40 rfl (lv_at hl 0 rfl) ?_
        refine lv_aload_n C0.1 C0.2.1 d_SE_firstLeastArc_41 rfl (lv_at hl 1 rfl) ?_
        refine gf_SE_42 C0 hP 3 rfl rfl d_SE_firstLeastArc_42 ?_
        refine lv_iload_n C0.1 C0.2.1 d_SE_firstLeastArc_45 rfl (lv_at hl 3 rfl) ?_
        refine ald_l C0 hP 19 2 rfl rfl (by omega) (by decide) d_SE_firstLeastArc_46 ?_
        refine lv_ladd C0.1 C0.2.1 d_SE_firstLeastArc_47 ?_
        refine tl (show (lN (ct (tt j))) + (lN (ac j)) = lN (ct (tt j) + (ac j)) from lN_add _ _) ?_
        refine lv_aload_n C0.1 C0.2.1 d_SE_firstLeastArc_48 rfl (lv_at hl 1 rfl) ?_
        refine gf_SE_50 C0 hP 3 rfl rfl d_SE_firstLeastArc_49 ?_
        refine lv_iload_n C0.1 C0.2.1 d_SE_firstLeastArc_52 rfl (lv_at hl 2 rfl) ?_
        refine ald_l C0 hP 20 2 rfl rfl (by omega) (by decide) d_SE_firstLeastArc_53 ?_
        refine W.lcmp C0.1 C0.2.1 d_SE_firstLeastArc_54 ?_
        refine lv_if_ne (tgt := 60) C0.1 C0.2.1 d_SE_firstLeastArc_55 (by decide) (fun c_55 => ?_) (fun c_55 => ?_)
        · have hnt : ¬ bf_tight af tt ac ct v j := fun q => c_55 ((lg_cmp_eq _ _).mpr (by rw [q.2.2]))
          refine lv_iinc (v := nI (j + 1)) (lv' := [(2, .int (nI (j + 1))), (3, .long (lN (ct (tt j)))), (0, .ref (a 3)), (1, .int (nI v))]) C0.1 C0.2.1 d_SE_firstLeastArc_60 hl (k := 3) rfl (inc1 _) (by decide) rfl (fun ls hl => ?_)
          refine lv_goto (tgt := 2) C0.1 C0.2.1 d_SE_firstLeastArc_63 (by decide) ?_
          exact ih_2 (j + 1) (show (j + 1) ≤ j0 from by have : j ≠ j0 := fun q => hnt (q ▸ ht); omega) (show j0 + 1 - (j + 1) < j0 + 1 - j from by omega) ls (lv_sub hl [2, 3, 0] rfl)
        · have e2 : ct (tt j) + ac j = ct v := (pk_lEQ (by omega) (by omega)).mp ((lg_cmp_eq _ _).mp c_55)
          have e3 : j = j0 := by
            rcases Nat.lt_or_ge j j0 with q | q
            · exact absurd ⟨e1, hfar, e2⟩ (hm j q)
            · omega
          refine lv_iload_n C0.1 C0.2.1 d_SE_firstLeastArc_58 rfl (lv_at hl 3 rfl) ?_
          exact eR_i C0 hr hlk (by rw [e3]) d_SE_firstLeastArc_59
end SEARCH2

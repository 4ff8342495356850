section MODEL3
variable {l : Launch} {g : va_G} {t : Nat → ClassId} {b : Nat → Nat} {n : Nat} {kd : Nat → Nat} {em : Nat → Bool} {br : Nat → Bool} {ii : Nat → Int32} {oo : Nat → Int32} {np : Nat} {ea : Nat → Nat} {eb : Nat → Nat} {li : Nat → Nat} {rn : Nat → Bool} {wp : Nat → Nat} {wl : Nat → Nat} {wf : Nat → Nat} {wt : Nat → Nat} {wn : Nat} {ct : Nat → Nat} {sT : Nat → Bool} {sP : Nat → Bool} {sa : Nat → Nat} {sb : Nat → Nat} {rest : va_W}
set_option maxHeartbeats 4000000 in
set_option maxRecDepth 100000 in
theorem c_MO_reckon (u0 e0 : Nat) (hu0 : u0 < 48) (he0 : e0 < 48) (hn : n ≤ 48) (hnp : np ≤ 96) (hk : ∀ j, kd j < 3) (hea : ∀ j, j < np → ea j < n) (heb : ∀ j, j < np → eb j < n) (hli : ∀ j, j < np → 1 ≤ li j ∧ li j ≤ 1000000000) : Mt l y_MO_reckon w_MO_reckon ({ frames := 2, cells := 0, slots := 0, locals := 51 }) g classes (tyL t) [.ref (b 0), .int (nI u0), .int (nI e0)] (mW b t n kd em br ii oo np ea eb li rn wp wl wf wt wn ct sT sP sa sb rest) (S := Nat → Nat) (fun v f => v = none ∧ RI n kd ii oo np ea eb li sT sP u0 e0 f ∧ rFix kd ii oo np ea eb li sT sP u0 e0 f) (fun f => (mW b t n kd em br ii oo np ea eb li rn wp wl wf wt wn f sT sP sa sb rest)) 0 0 := by
  refine Mt.of (cc := b_MO_reckon) (maxL := 5) (ret := none) (own := R_MO) (by decide) rfl rfl (Nat.le_of_ble_eq_true rfl) ?_
  intro p e s m args below meth c C0 hr hlk hin A hA hB ls hl
  have hl : lv_has ls 5 [(0, .ref (b 0)), (1, .int (nI u0)), (2, .int (nI e0))] := hl
  refine lv_iconst (v := nI 0) C0.1 C0.2.1 d_MO_reckon_0 (by decide) ?_
  refine lv_istore_n (lv' := [(3, .int (nI 0)), (0, .ref (b 0)), (1, .int (nI u0)), (2, .int (nI e0))]) C0.1 C0.2.1 d_MO_reckon_1 rfl hl (by decide) rfl (fun ls hl => ?_)
  refine wlM (σ := Nat × (Nat → Nat)) (head := 2) (fun z_ => n - z_.1) (fun z_ => z_.1 ≤ n ∧ ∀ x, x < z_.1 → z_.2 x = far2) (fun z_ => (mW b t n kd em br ii oo np ea eb li rn wp wl wf wt wn z_.2 sT sP sa sb rest)) (fun z_ => [(0, .ref (b 0)), (1, .int (nI u0)), (2, .int (nI e0)), (3, .int (nI z_.1))]) ?_ (0, ct) (show 0 ≤ n ∧ ∀ x, x < 0 → ct x = far2 from ⟨Nat.zero_le _, fun i h => absurd h (Nat.not_lt_zero _)⟩) hB (lv_sub hl [1, 2, 3, 0] rfl)
  rintro ⟨j, f⟩ hi ih_2 H locs ls hB hl
  have hi : j ≤ n ∧ ∀ x, x < j → f x = far2 := hi
  obtain ⟨hi1, hi2⟩ := hi
  have hl : lv_has ls 5 [(0, .ref (b 0)), (1, .int (nI u0)), (2, .int (nI e0)), (3, .int (nI j))] := hl
  have hB : wB g classes A s.heap (mW b t n kd em br ii oo np ea eb li rn wp wl wf wt wn f sT sP sa sb rest) H locs := hB
  refine lv_iload_n C0.1 C0.2.1 d_MO_reckon_2 rfl (lv_at hl 3 rfl) ?_
  refine lv_aload_n C0.1 C0.2.1 d_MO_reckon_3 rfl (lv_at hl 0 rfl) ?_
  refine gf_MO_66 C0 hB.1 0 rfl rfl d_MO_reckon_4 ?_
  refine lv_icmp_ge (tgt := 25) C0.1 C0.2.1 d_MO_reckon_7 (by decide) (fun c_7 => ?_) (fun c_7 => ?_)
  · have hj : j = n := by have := (nI_leI (by omega) (by omega)).mp c_7; omega
    have hi3 : ∀ x, x < n → f x = far2 := fun x hx => hi2 x (by omega)
    refine lv_aload_n C0.1 C0.2.1 d_MO_reckon_25 rfl (lv_at hl 0 rfl) ?_
    refine gf_MO_51 C0 hB.1 0 rfl rfl d_MO_reckon_26 ?_
    refine lv_iload_n C0.1 C0.2.1 d_MO_reckon_29 rfl (lv_at hl 2 rfl) ?_
    refine lv_lconst (v := lN 0) C0.1 C0.2.1 d_MO_reckon_30 rfl ?_
    refine ast_l (w' := (mW b t n kd em br ii oo np ea eb li rn wp wl wf wt wn (va_up f e0 0) sT sP sa sb rest)) C0 hB 14 2 rfl rfl (by omega) (by decide) up_lN rfl d_MO_reckon_31 (fun H locs hB => ?_)
    refine lv_iconst (v := bI true) C0.1 C0.2.1 d_MO_reckon_32 (by decide) ?_
    refine lv_istore_n (lv' := [(3, .int (bI true)), (0, .ref (b 0)), (1, .int (nI u0)), (2, .int (nI e0))]) C0.1 C0.2.1 d_MO_reckon_33 rfl hl (by decide) rfl (fun ls hl => ?_)
    refine wlM (σ := (Nat → Nat) × Bool) (head := 34) (fun z_ => 2 * sumN z_.1 n + (if z_.2 = true then 1 else 0)) (fun z_ => RI n kd ii oo np ea eb li sT sP u0 e0 z_.1 ∧ (z_.2 = false → rFix kd ii oo np ea eb li sT sP u0 e0 z_.1)) (fun z_ => (mW b t n kd em br ii oo np ea eb li rn wp wl wf wt wn z_.1 sT sP sa sb rest)) (fun z_ => [(0, .ref (b 0)), (1, .int (nI u0)), (2, .int (nI e0)), (3, .int (bI z_.2))]) ?_ ((va_up f e0 0), true) (show RI n kd ii oo np ea eb li sT sP u0 e0 (va_up f e0 0) ∧ (true = false → rFix kd ii oo np ea eb li sT sP u0 e0 (va_up f e0 0)) from ⟨RI_0 hi3, fun q => by cases q⟩) hB (lv_sub hl [1, 2, 3, 0] rfl)
    rintro ⟨f2, bb⟩ hi ih_34 H locs ls hB hl
    have hi : RI n kd ii oo np ea eb li sT sP u0 e0 f2 ∧ (bb = false → rFix kd ii oo np ea eb li sT sP u0 e0 f2) := hi
    obtain ⟨hj1, hj2⟩ := hi
    have hl : lv_has ls 5 [(0, .ref (b 0)), (1, .int (nI u0)), (2, .int (nI e0)), (3, .int (bI bb))] := hl
    have hB : wB g classes A s.heap (mW b t n kd em br ii oo np ea eb li rn wp wl wf wt wn f2 sT sP sa sb rest) H locs := hB
    refine lv_iload_n C0.1 C0.2.1 d_MO_reckon_34 rfl (lv_at hl 3 rfl) ?_
    refine lv_if_eq (tgt := 111) C0.1 C0.2.1 d_MO_reckon_35 (by decide) (fun c_35 => ?_) (fun c_35 => ?_)
    · have hbb := bI_0.mp c_35
      exact eM_v C0 hr hlk f2 hB (⟨rfl, hj1, hj2 hbb⟩) (Nat.le_refl _) (Nat.le_refl _) d_MO_reckon_111
    · have hbb := bI_n0.mp c_35
      refine lv_iconst (v := bI false) C0.1 C0.2.1 d_MO_reckon_38 (by decide) ?_
      refine lv_istore_n (lv' := [(3, .int (bI false)), (0, .ref (b 0)), (1, .int (nI u0)), (2, .int (nI e0))]) C0.1 C0.2.1 d_MO_reckon_39 rfl hl (by decide) rfl (fun ls hl => ?_)
      refine lv_iconst (v := nI 0) C0.1 C0.2.1 d_MO_reckon_40 (by decide) ?_
      refine lv_istore (lv' := [(4, .int (nI 0)), (3, .int (bI false)), (0, .ref (b 0)), (1, .int (nI u0)), (2, .int (nI e0))]) C0.1 C0.2.1 d_MO_reckon_41 hl (by decide) rfl (fun ls hl => ?_)
      refine wlM (σ := Nat × (Nat → Nat) × Bool) (head := 43) (fun z_ => np - z_.1) (fun z_ => z_.1 ≤ np ∧ RP n kd ii oo np ea eb li sT sP u0 e0 f2 z_.1 z_.2.1 z_.2.2) (fun z_ => (mW b t n kd em br ii oo np ea eb li rn wp wl wf wt wn z_.2.1 sT sP sa sb rest)) (fun z_ => [(0, .ref (b 0)), (1, .int (nI u0)), (2, .int (nI e0)), (3, .int (bI z_.2.2)), (4, .int (nI z_.1))]) ?_ (0, f2, false) (show 0 ≤ np ∧ RP n kd ii oo np ea eb li sT sP u0 e0 f2 0 f2 false from ⟨Nat.zero_le _, RP_0 hj1⟩) hB (lv_sub hl [2, 3, 4, 1, 0] rfl)
      rintro ⟨j3, h, c3⟩ hi ih_43 H locs ls hB hl
      have hi : j3 ≤ np ∧ RP n kd ii oo np ea eb li sT sP u0 e0 f2 j3 h c3 := hi
      obtain ⟨hm1, hm2⟩ := hi
      have hl : lv_has ls 5 [(0, .ref (b 0)), (1, .int (nI u0)), (2, .int (nI e0)), (3, .int (bI c3)), (4, .int (nI j3))] := hl
      have hB : wB g classes A s.heap (mW b t n kd em br ii oo np ea eb li rn wp wl wf wt wn h sT sP sa sb rest) H locs := hB
      refine lv_iload C0.1 C0.2.1 d_MO_reckon_43 (lv_at hl 4 rfl) ?_
      refine lv_aload_n C0.1 C0.2.1 d_MO_reckon_45 rfl (lv_at hl 0 rfl) ?_
      refine gf_MO_80 C0 hB.1 0 rfl rfl d_MO_reckon_46 ?_
      refine lv_icmp_ge (tgt := 108) C0.1 C0.2.1 d_MO_reckon_49 (by decide) (fun c_49 => ?_) (fun c_49 => ?_)
      · have hjn : j3 = np := by have := (nI_leI (by omega) (by omega)).mp c_49; omega
        refine lv_goto (tgt := 34) C0.1 C0.2.1 d_MO_reckon_108 (by decide) ?_
        exact ih_34 (h, c3) (show RI n kd ii oo np ea eb li sT sP u0 e0 h ∧ (c3 = false → rFix kd ii oo np ea eb li sT sP u0 e0 h) from ⟨hm2.1, fun q => by obtain ⟨q1, q2⟩ := hm2.2.2.2 q; rw [q1]; rw [hjn] at q2; exact q2⟩) (show 2 * sumN h n + (if c3 = true then 1 else 0) < 2 * sumN f2 n + (if bb = true then 1 else 0) from by rw [hbb, if_pos rfl]; cases c3 with | true => have := hm2.2.2.1 rfl; rw [if_pos rfl]; omega | false => have := hm2.2.1; simp; omega) H locs ls hB (lv_sub hl [0, 1, 2, 3] rfl)
      · have hj3 : j3 < np := (nI_nle' (by omega) (by omega)).mp c_49
        have hxa := hea j3 hj3
        have hxb := heb j3 hj3
        refine lv_iload_n C0.1 C0.2.1 d_MO_reckon_52 rfl (lv_at hl 3 rfl) ?_
        refine lv_aload_n C0.1 C0.2.1 d_MO_reckon_53 rfl (lv_at hl 0 rfl) ?_
        refine lv_iload C0.1 C0.2.1 d_MO_reckon_54 (lv_at hl 4 rfl) ?_
        refine lv_aload_n C0.1 C0.2.1 d_MO_reckon_56 rfl (lv_at hl 0 rfl) ?_
        refine gf_MO_26 C0 hB.1 0 rfl rfl d_MO_reckon_57 ?_
        refine lv_iload C0.1 C0.2.1 d_MO_reckon_60 (lv_at hl 4 rfl) ?_
        refine ald_i C0 hB.1 6 0 rfl rfl (by omega) (by decide) d_MO_reckon_62 ?_
        refine lv_aload_n C0.1 C0.2.1 d_MO_reckon_63 rfl (lv_at hl 0 rfl) ?_
        refine gf_MO_29 C0 hB.1 0 rfl rfl d_MO_reckon_64 ?_
        refine lv_iload C0.1 C0.2.1 d_MO_reckon_67 (lv_at hl 4 rfl) ?_
        refine ald_i C0 hB.1 7 0 rfl rfl (by omega) (by decide) d_MO_reckon_69 ?_
        refine lv_iload_n C0.1 C0.2.1 d_MO_reckon_70 rfl (lv_at hl 1 rfl) ?_
        refine lv_iload_n C0.1 C0.2.1 d_MO_reckon_71 rfl (lv_at hl 2 rfl) ?_
        refine cM (As := [.int (nI j3), .int (nI (ea j3)), .int (nI (eb j3)), .int (nI u0), .int (nI e0)]) (rest := [.int (bI c3)]) C0 (c_MO_improve j3 (ea j3) (eb j3) u0 e0 (by omega) (by omega) (by omega) hu0 he0 hk (hli j3 hj3).2 (hm2.1.1 _ hxb) (hm2.1.1 _ hxa)) (q_MO_93 C0.2.2.2.2.1 rfl rfl ⟨Nat.le_of_ble_eq_true rfl, Nat.le_of_ble_eq_true rfl⟩) (ci := 5) (q0 := 0) rfl rfl rfl hB hl.1 rfl rfl (Nat.le_of_ble_eq_true rfl) d_MO_reckon_72 ⟨Nat.zero_le _, Nat.zero_le _⟩ (fun v_72 u_72 H locs hp_72 hB => ?_)
        obtain ⟨h1, d1⟩ := u_72
        obtain ⟨rfl, i1⟩ := hp_72
        have hB : wB g classes A s.heap (mW b t n kd em br ii oo np ea eb li rn wp wl wf wt wn h1 sT sP sa sb rest) H locs := hB
        refine W.eq (g2 := F0 m 75 ls [.int (bI d1), .int (bI c3)]) rfl ?_
        refine lv_ior C0.1 C0.2.1 d_MO_reckon_75 ?_
        refine ti (show (bI c3) ||| (bI d1) = bI (c3 || d1) from bI_or) ?_
        refine lv_istore_n (lv' := [(3, .int (bI (c3 || d1))), (0, .ref (b 0)), (1, .int (nI u0)), (2, .int (nI e0)), (4, .int (nI j3))]) C0.1 C0.2.1 d_MO_reckon_76 rfl hl (by decide) rfl (fun ls hl => ?_)
        refine lv_iload_n C0.1 C0.2.1 d_MO_reckon_77 rfl (lv_at hl 0 rfl) ?_
        refine lv_aload_n C0.1 C0.2.1 d_MO_reckon_78 rfl (lv_at hl 1 rfl) ?_
        refine lv_iload C0.1 C0.2.1 d_MO_reckon_79 (lv_at hl 4 rfl) ?_
        refine lv_aload_n C0.1 C0.2.1 d_MO_reckon_81 rfl (lv_at hl 1 rfl) ?_
        refine gf_MO_29 C0 hB.1 0 rfl rfl d_MO_reckon_82 ?_
        refine lv_iload C0.1 C0.2.1 d_MO_reckon_85 (lv_at hl 4 rfl) ?_
        refine ald_i C0 hB.1 7 0 rfl rfl (by omega) (by decide) d_MO_reckon_87 ?_
        refine lv_aload_n C0.1 C0.2.1 d_MO_reckon_88 rfl (lv_at hl 1 rfl) ?_
        refine gf_MO_26 C0 hB.1 0 rfl rfl d_MO_reckon_89 ?_
        refine lv_iload C0.1 C0.2.1 d_MO_reckon_92 (lv_at hl 4 rfl) ?_
        refine ald_i C0 hB.1 6 0 rfl rfl (by omega) (by decide) d_MO_reckon_94 ?_
        refine lv_iload_n C0.1 C0.2.1 d_MO_reckon_95 rfl (lv_at hl 2 rfl) ?_
        refine lv_iload_n C0.1 C0.2.1 d_MO_reckon_96 rfl (lv_at hl 3 rfl) ?_
        refine cM (As := [.int (nI j3), .int (nI (eb j3)), .int (nI (ea j3)), .int (nI u0), .int (nI e0)]) (rest := [.int (bI (c3 || d1))]) C0 (c_MO_improve j3 (eb j3) (ea j3) u0 e0 (by omega) (by omega) (by omega) hu0 he0 hk (hli j3 hj3).2 ((RI_imp hm2.1 i1 hj3 (Or.inl ⟨rfl, rfl⟩) hxa hxb).1.1 _ hxa) ((RI_imp hm2.1 i1 hj3 (Or.inl ⟨rfl, rfl⟩) hxa hxb).1.1 _ hxb)) (q_MO_93 C0.2.2.2.2.1 rfl rfl ⟨Nat.le_of_ble_eq_true rfl, Nat.le_of_ble_eq_true rfl⟩) (ci := 5) (q0 := 0) rfl rfl rfl hB hl.1 rfl rfl (Nat.le_of_ble_eq_true rfl) d_MO_reckon_97 ⟨Nat.zero_le _, Nat.zero_le _⟩ (fun v_97 u_97 H locs hp_97 hB => ?_)
        obtain ⟨h2, d2⟩ := u_97
        obtain ⟨rfl, i2⟩ := hp_97
        have hB : wB g classes A s.heap (mW b t n kd em br ii oo np ea eb li rn wp wl wf wt wn h2 sT sP sa sb rest) H locs := hB
        refine W.eq (g2 := F0 m 100 ls [.int (bI d2), .int (bI (c3 || d1))]) rfl ?_
        refine lv_ior C0.1 C0.2.1 d_MO_reckon_100 ?_
        refine ti (show (bI (c3 || d1)) ||| (bI d2) = bI (c3 || d1 || d2) from bI_or) ?_
        refine lv_istore_n (lv' := [(3, .int (bI (c3 || d1 || d2))), (0, .ref (b 0)), (1, .int (nI u0)), (2, .int (nI e0)), (4, .int (nI j3))]) C0.1 C0.2.1 d_MO_reckon_101 rfl hl (by decide) rfl (fun ls hl => ?_)
        refine lv_iinc (v := nI (j3 + 1)) (lv' := [(4, .int (nI (j3 + 1))), (3, .int (bI (c3 || d1 || d2))), (0, .ref (b 0)), (1, .int (nI u0)), (2, .int (nI e0))]) C0.1 C0.2.1 d_MO_reckon_102 hl (k := 4) rfl (inc1 _) (by decide) rfl (fun ls hl => ?_)
        refine lv_goto (tgt := 43) C0.1 C0.2.1 d_MO_reckon_105 (by decide) ?_
        exact ih_43 ((j3 + 1), h2, (c3 || d1 || d2)) (show (j3 + 1) ≤ np ∧ RP n kd ii oo np ea eb li sT sP u0 e0 f2 (j3 + 1) h2 (c3 || d1 || d2) from ⟨by omega, RP_s hm2 hj3 hxa hxb i1 i2⟩) (show np - (j3 + 1) < np - j3 from by omega) H locs ls hB (lv_sub hl [2, 3, 4, 1, 0] rfl)
  · have hj : j < n := (nI_nle' (by omega) (by omega)).mp c_7
    refine lv_aload_n C0.1 C0.2.1 d_MO_reckon_10 rfl (lv_at hl 0 rfl) ?_
    refine gf_MO_51 C0 hB.1 0 rfl rfl d_MO_reckon_11 ?_
    refine lv_iload_n C0.1 C0.2.1 d_MO_reckon_14 rfl (lv_at hl 3 rfl) ?_
    refine lv_ldc2 C0.1 C0.2.1 C0.2.2.2.1 (C0.2.2.2.2.1 _ k_MO_91) d_MO_reckon_15 ?_
    refine tl (show (1152921504606846976 : Int64) = lN 1152921504606846976 from rfl) ?_
    refine ast_l (w' := (mW b t n kd em br ii oo np ea eb li rn wp wl wf wt wn (va_up f j 1152921504606846976) sT sP sa sb rest)) C0 hB 14 2 rfl rfl (by omega) (by decide) up_lN rfl d_MO_reckon_18 (fun H locs hB => ?_)
    refine lv_iinc (v := nI (j + 1)) (lv' := [(3, .int (nI (j + 1))), (0, .ref (b 0)), (1, .int (nI u0)), (2, .int (nI e0))]) C0.1 C0.2.1 d_MO_reckon_19 hl (k := 3) rfl (inc1 _) (by decide) rfl (fun ls hl => ?_)
    refine lv_goto (tgt := 2) C0.1 C0.2.1 d_MO_reckon_22 (by decide) ?_
    exact ih_2 ((j + 1), (va_up f j 1152921504606846976)) (show (j + 1) ≤ n ∧ ∀ x, x < (j + 1) → (va_up f j 1152921504606846976) x = far2 from ⟨by omega, lt_s (fun x hx => by rw [va_up_ne _ _ (show x ≠ j by omega)]; exact hi2 x hx) (va_up_self _ _ _)⟩) (show n - (j + 1) < n - j from by omega) H locs ls hB (lv_sub hl [1, 2, 3, 0] rfl)
/-- what the reference's search says: no way when an end is shut; else the costs are a fixpoint -/
def mNo (n : Nat) (kd : Nat → Nat) (ii oo : Nat → Int32) (np : Nat) (ea eb li : Nat → Nat) (sT sP : Nat → Bool) (u0 e0 : Nat) : Prop := (sT u0 || sT e0) = true ∨ ∃ c, RI n kd ii oo np ea eb li sT sP u0 e0 c ∧ rFix kd ii oo np ea eb li sT sP u0 e0 c ∧ c u0 = far2
def mYes (n : Nat) (kd : Nat → Nat) (ii oo : Nat → Int32) (np : Nat) (ea eb li : Nat → Nat) (sT sP : Nat → Bool) (u0 e0 : Nat) : Prop := (sT u0 || sT e0) = false ∧ ∃ c, RI n kd ii oo np ea eb li sT sP u0 e0 c ∧ rFix kd ii oo np ea eb li sT sP u0 e0 c ∧ c u0 ≠ far2
set_option maxHeartbeats 4000000 in
set_option maxRecDepth 100000 in
theorem c_MO_exists (u0 e0 : Nat) (hu0 : u0 < n) (he0 : e0 < n) (hn : n ≤ 48) (hnp : np ≤ 96) (hk : ∀ j, kd j < 3) (hea : ∀ j, j < np → ea j < n) (heb : ∀ j, j < np → eb j < n) (hli : ∀ j, j < np → 1 ≤ li j ∧ li j ≤ 1000000000) : Mt l y_MO_exists w_MO_exists ({ frames := 3, cells := 0, slots := 0, locals := 75 }) g classes (tyL t) [.ref (b 0), .int (nI u0), .int (nI e0)] (mW b t n kd em br ii oo np ea eb li rn wp wl wf wt wn ct sT sP sa sb rest) (S := (Nat → Nat) × Bool) (fun v z => v = some (.int (bI z.2)) ∧ ((z.2 = true ∧ mYes n kd ii oo np ea eb li sT sP u0 e0) ∨ (z.2 = false ∧ mNo n kd ii oo np ea eb li sT sP u0 e0))) (fun z => (mW b t n kd em br ii oo np ea eb li rn wp wl wf wt wn z.1 sT sP sa sb rest)) 0 0 := by
  refine Mt.of (cc := b_MO_exists) (maxL := 3) (ret := (some .boolean)) (own := R_MO) (by decide) rfl rfl (Nat.le_of_ble_eq_true rfl) ?_
  intro p e s m args below meth c C0 hr hlk hin A hA hB ls hl
  have hl : lv_has ls 3 [(0, .ref (b 0)), (1, .int (nI u0)), (2, .int (nI e0))] := hl
  refine lv_aload_n C0.1 C0.2.1 d_MO_exists_0 rfl (lv_at hl 0 rfl) ?_
  refine gf_MO_54 C0 hB.1 0 rfl rfl d_MO_exists_1 ?_
  refine lv_iload_n C0.1 C0.2.1 d_MO_exists_4 rfl (lv_at hl 1 rfl) ?_
  refine ald_z C0 hB.1 15 1 rfl rfl (by omega) (by decide) d_MO_exists_5 ?_
  refine lv_if_ne (tgt := 18) C0.1 C0.2.1 d_MO_exists_6 (by decide) (fun c_6 => ?_) (fun c_6 => ?_)
  · refine lv_iconst (v := nI 0) C0.1 C0.2.1 d_MO_exists_18 (by decide) ?_
    exact eM_z C0 hr hlk (b := false) (ct, false) rfl hB ⟨rfl, Or.inr ⟨rfl, Or.inl (by rw [bI_n0.mp c_6]; rfl)⟩⟩ (Nat.le_refl _) (Nat.le_refl _) d_MO_exists_19
  · refine lv_aload_n C0.1 C0.2.1 d_MO_exists_9 rfl (lv_at hl 0 rfl) ?_
    refine gf_MO_54 C0 hB.1 0 rfl rfl d_MO_exists_10 ?_
    refine lv_iload_n C0.1 C0.2.1 d_MO_exists_13 rfl (lv_at hl 2 rfl) ?_
    refine ald_z C0 hB.1 15 1 rfl rfl (by omega) (by decide) d_MO_exists_14 ?_
    refine lv_if_eq (tgt := 20) C0.1 C0.2.1 d_MO_exists_15 (by decide) (fun c_15 => ?_) (fun c_15 => ?_)
    · have hns : (sT u0 || sT e0) = false := by rw [bI_0.mp c_6, bI_0.mp c_15]; rfl
      refine lv_aload_n C0.1 C0.2.1 d_MO_exists_20 rfl (lv_at hl 0 rfl) ?_
      refine lv_iload_n C0.1 C0.2.1 d_MO_exists_21 rfl (lv_at hl 1 rfl) ?_
      refine lv_iload_n C0.1 C0.2.1 d_MO_exists_22 rfl (lv_at hl 2 rfl) ?_
      refine cM (As := [.int (nI u0), .int (nI e0)]) (rest := []) C0 (c_MO_reckon u0 e0 (by omega) (by omega) hn hnp hk hea heb hli) (q_MO_102 C0.2.2.2.2.1 rfl rfl ⟨Nat.le_of_ble_eq_true rfl, Nat.le_of_ble_eq_true rfl⟩) (ci := 5) (q0 := 0) rfl rfl rfl hB hl.1 rfl rfl (Nat.le_of_ble_eq_true rfl) d_MO_exists_23 ⟨Nat.zero_le _, Nat.zero_le _⟩ (fun v_23 d1 H locs hp_23 hB => ?_)
      obtain ⟨rfl, x1, x2⟩ := hp_23
      have hB : wB g classes A s.heap (mW b t n kd em br ii oo np ea eb li rn wp wl wf wt wn d1 sT sP sa sb rest) H locs := hB
      refine W.eq (g2 := F0 m 26 ls []) rfl ?_
      refine lv_aload_n C0.1 C0.2.1 d_MO_exists_26 rfl (lv_at hl 0 rfl) ?_
      refine gf_MO_51 C0 hB.1 0 rfl rfl d_MO_exists_27 ?_
      refine lv_iload_n C0.1 C0.2.1 d_MO_exists_30 rfl (lv_at hl 1 rfl) ?_
      refine ald_l C0 hB.1 14 2 rfl rfl (by omega) (by decide) d_MO_exists_31 ?_
      refine lv_ldc2 C0.1 C0.2.1 C0.2.2.2.1 (C0.2.2.2.2.1 _ k_MO_91) d_MO_exists_32 ?_
      refine tl (show (1152921504606846976 : Int64) = lN 1152921504606846976 from rfl) ?_
      refine W.lcmp C0.1 C0.2.1 d_MO_exists_35 ?_
      refine lv_if_eq (tgt := 43) C0.1 C0.2.1 d_MO_exists_36 (by decide) (fun c_36 => ?_) (fun c_36 => ?_)
      · have hfar : d1 u0 = far2 := (pk_lEQ (by have := x1.1 u0 hu0; exact Nat.lt_of_le_of_lt this (by decide)) (by decide)).mp ((lg_cmp_eq _ _).mp c_36)
        refine lv_iconst (v := nI 0) C0.1 C0.2.1 d_MO_exists_43 (by decide) ?_
        exact eM_z C0 hr hlk (b := false) (d1, false) rfl hB ⟨rfl, Or.inr ⟨rfl, Or.inr ⟨d1, x1, x2, hfar⟩⟩⟩ (Nat.le_refl _) (Nat.le_refl _) d_MO_exists_44
      · have hfar : d1 u0 ≠ far2 := fun q => c_36 ((lg_cmp_eq _ _).mpr (by rw [q]))
        refine lv_iconst (v := nI 1) C0.1 C0.2.1 d_MO_exists_39 (by decide) ?_
        refine lv_goto (tgt := 44) C0.1 C0.2.1 d_MO_exists_40 (by decide) ?_
        exact eM_z C0 hr hlk (b := true) (d1, true) rfl hB ⟨rfl, Or.inl ⟨rfl, hns, d1, x1, x2, hfar⟩⟩ (Nat.le_refl _) (Nat.le_refl _) d_MO_exists_44
    · refine lv_iconst (v := nI 0) C0.1 C0.2.1 d_MO_exists_18 (by decide) ?_
      exact eM_z C0 hr hlk (b := false) (ct, false) rfl hB ⟨rfl, Or.inr ⟨rfl, Or.inl (by rw [bI_n0.mp c_15, Bool.or_true])⟩⟩ (Nat.le_refl _) (Nat.le_refl _) d_MO_exists_19
end MODEL3

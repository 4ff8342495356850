section SEARCH3
variable {l : Launch} {g : va_G} {t : Nat → ClassId} {a : Nat → Nat} {n : Nat} {kd : Nat → Nat} {em : Nat → Bool} {br : Nat → Bool} {ii : Nat → Int32} {oo : Nat → Int32} {np : Nat} {ea : Nat → Nat} {eb : Nat → Nat} {li : Nat → Nat} {rn : Nat → Bool} {wa : Nat → Option Nat} {wn : Nat} {sT : Nat → Bool} {sP : Nat → Bool} {ak : Nat} {ap : Nat → Nat} {af : Nat → Nat} {tt : Nat → Nat} {ac : Nat → Nat} {ct : Nat → Nat} {rp : Nat → Nat} {rt : Nat → Nat} {rest : va_W} {L : List Wy}
set_option maxHeartbeats 4000000 in
set_option maxRecDepth 100000 in
theorem c_SE_followLeast (u0 e0 : Nat) (Wl : List Nat) (hu0 : u0 < 48) (he0 : e0 < 48) (hW : bf_fw ak af tt ac ct e0 u0 Wl) (hlen : Wl.length < 48) (hnd : ∀ j, (bf_nodes tt u0 Wl).getD j 0 < 48) (hak : ak ≤ 192) (haf : ∀ j, j < ak → af j < 48) (htt : ∀ j, j < ak → tt j < 48) (hac : ∀ j, j < ak → ac j ≤ 100000000000) (hct : ∀ v, ct v ≤ bf_far) (hM : bf_bd 1000000000000000 ct) : Mt l y_SE_followLeast w_SE_followLeast ({ frames := 2, cells := 3, slots := 100, locals := 82 }) g classes (tyL t) [.ref (a 3), .int (nI u0), .int (nI e0)] (wW a t n kd em br ii oo np ea eb li rn wa wn sT sP ak ap af tt ac ct rp rt rest L) (S := Nat × Nat × Nat × (Nat → Nat) × (Nat → Nat)) (fun v z => v = some (.ref z.2.2.1)) (fun z => (wW a t n kd em br ii oo np ea eb li rn wa wn sT sP ak ap af tt ac ct z.2.2.2.1 z.2.2.2.2 rest (L ++ [(z.1, z.2.1, z.2.2.1, u0, e0, ct u0 / 64, Wl.map ap, (bf_nodes tt u0 Wl))]))) 3 100 := by
  refine Mt.of (cc := b_SE_followLeast) (maxL := 9) (ret := (some (.object "WaySearch$FoundWay"))) (own := R_SE) (by decide) rfl rfl (Nat.le_of_ble_eq_true rfl) ?_
  intro p e s m args below meth c C0 hr hlk hin A hA hB ls hl
  have hl : lv_has ls 9 [(0, .ref (a 3)), (1, .int (nI u0)), (2, .int (nI e0))] := hl
  refine lv_iload_n C0.1 C0.2.1 d_SE_followLeast_0 rfl (lv_at hl 1 rfl) ?_
  refine lv_istore_n (lv' := [(3, .int (nI u0)), (0, .ref (a 3)), (1, .int (nI u0)), (2, .int (nI e0))]) C0.1 C0.2.1 d_SE_followLeast_1 rfl hl (by decide) rfl (fun ls hl => ?_)
  refine lv_iconst (v := nI 0) C0.1 C0.2.1 d_SE_followLeast_2 (by decide) ?_
  refine lv_istore (lv' := [(4, .int (nI 0)), (3, .int (nI u0)), (0, .ref (a 3)), (1, .int (nI u0)), (2, .int (nI e0))]) C0.1 C0.2.1 d_SE_followLeast_3 hl (by decide) rfl (fun ls hl => ?_)
  refine lv_aload_n C0.1 C0.2.1 d_SE_followLeast_5 rfl (lv_at hl 2 rfl) ?_
  refine gf_SE_56 C0 hB.1 3 rfl rfl d_SE_followLeast_6 ?_
  refine lv_iconst (v := nI 0) C0.1 C0.2.1 d_SE_followLeast_9 (by decide) ?_
  refine lv_iload_n C0.1 C0.2.1 d_SE_followLeast_10 rfl (lv_at hl 3 rfl) ?_
  refine ast_i (w' := (wW a t n kd em br ii oo np ea eb li rn wa wn sT sP ak ap af tt ac ct rp (va_up rt 0 u0) rest L)) C0 hB 22 0 rfl rfl (by omega) (by decide) up_nI rfl d_SE_followLeast_11 (fun H locs hB => ?_)
  refine wlM (σ := Nat × (Nat → Nat) × (Nat → Nat)) (head := 12) (fun z_ => Wl.length - z_.1) (fun z_ => z_.1 ≤ Wl.length ∧ (∀ j, j < z_.1 → z_.2.1 j = (Wl.map ap).getD j 0) ∧ ∀ j, j ≤ z_.1 → z_.2.2 j = (bf_nodes tt u0 Wl).getD j 0) (fun z_ => (wW a t n kd em br ii oo np ea eb li rn wa wn sT sP ak ap af tt ac ct z_.2.1 z_.2.2 rest L)) (fun z_ => [(0, .ref (a 3)), (1, .int (nI u0)), (2, .int (nI e0)), (3, .int (nI ((bf_nodes tt u0 Wl).getD z_.1 0))), (4, .int (nI z_.1))]) ?_ (0, rp, (va_up rt 0 u0)) (show 0 ≤ Wl.length ∧ (∀ j, j < 0 → rp j = (Wl.map ap).getD j 0) ∧ ∀ j, j ≤ 0 → (va_up rt 0 u0) j = (bf_nodes tt u0 Wl).getD j 0 from ⟨Nat.zero_le _, fun j h => absurd h (Nat.not_lt_zero _), fun j h => by rw [show j = 0 by omega, va_up_self]; rfl⟩) hB (lv_sub hl [2, 3, 4, 1, 0] rfl)
  rintro ⟨k, r, q⟩ hi ih_12 H locs ls hB hl
  have hi : k ≤ Wl.length ∧ (∀ j, j < k → r j = (Wl.map ap).getD j 0) ∧ ∀ j, j ≤ k → q j = (bf_nodes tt u0 Wl).getD j 0 := hi
  obtain ⟨hi1, hi2, hi3⟩ := hi
  have hl : lv_has ls 9 [(0, .ref (a 3)), (1, .int (nI u0)), (2, .int (nI e0)), (3, .int (nI ((bf_nodes tt u0 Wl).getD k 0))), (4, .int (nI k))] := hl
  have hB : wB g classes A s.heap (wW a t n kd em br ii oo np ea eb li rn wa wn sT sP ak ap af tt ac ct r q rest L) H locs := hB
  refine lv_iload_n C0.1 C0.2.1 d_SE_followLeast_12 rfl (lv_at hl 3 rfl) ?_
  refine lv_iload_n C0.1 C0.2.1 d_SE_followLeast_13 rfl (lv_at hl 2 rfl) ?_
  refine lv_icmp_eq (tgt := 75) C0.1 C0.2.1 d_SE_followLeast_14 (by decide) (fun c_14 => ?_) (fun c_14 => ?_)
  · have hkW : k = Wl.length := by
      rcases Nat.lt_or_ge k Wl.length with z | z
      · exact absurd ((nI_eq (by have := hnd k; omega) (by omega)).mp c_14) (bf_fw_at Wl u0 k hW z).1
      · omega
    have hkl : k = (Wl.map ap).length := by rw [List.length_map]; exact hkW
    have hl1 : (Wl.map ap).length = Wl.length := List.length_map ..
    have hl2 : (bf_nodes tt u0 Wl).length = Wl.length + 1 := bf_nodes_len u0 Wl
    subst hkl
    refine lv_aload_n C0.1 C0.2.1 d_SE_followLeast_75 rfl (lv_at hl 0 rfl) ?_
    refine gf_SE_50 C0 hB.1 3 rfl rfl d_SE_followLeast_76 ?_
    refine lv_iload_n C0.1 C0.2.1 d_SE_followLeast_79 rfl (lv_at hl 1 rfl) ?_
    refine ald_l C0 hB.1 20 2 rfl rfl (by omega) (by decide) d_SE_followLeast_80 ?_
    refine lv_ldc2 C0.1 C0.2.1 C0.2.2.2.1 (C0.2.2.2.2.1 _ k_SE_119) d_SE_followLeast_81 ?_
    refine tl (show (64 : Int64) = lN 64 from rfl) ?_
    refine lv_ldiv C0.1 C0.2.1 d_SE_followLeast_84 (by decide) ?_
    refine tl (show (lN (ct u0)) / (lN 64) = lN (ct u0 / 64) from pk_lDiv (Nat.lt_of_le_of_lt (hct u0) (by decide)) (by decide) (by decide)) ?_
    refine lv_lstore (lv' := [(5, .long (lN (ct u0 / 64))), (0, .ref (a 3)), (1, .int (nI u0)), (2, .int (nI e0)), (3, .int (nI ((bf_nodes tt u0 Wl).getD ((Wl.map ap).length) 0))), (4, .int (nI (Wl.map ap).length))]) C0.1 C0.2.1 d_SE_followLeast_85 hl (by decide) rfl (fun ls hl => ?_)
    refine lv_aload_n C0.1 C0.2.1 d_SE_followLeast_87 rfl (lv_at hl 1 rfl) ?_
    refine gf_SE_53 C0 hB.1 3 rfl rfl d_SE_followLeast_88 ?_
    refine lv_iload C0.1 C0.2.1 d_SE_followLeast_91 (lv_at hl 5 rfl) ?_
    refine cMS (As := [.ref (a 21), .int (nI (Wl.map ap).length)]) (rest := []) C0 (c_AR_copyOf 21 (a 21) 48 (Wl.map ap).length (fun j => nI (r j)) (fun j => nI ((Wl.map ap).getD j 0)) rfl (by decide) (by omega) (fun j hj => by rw [hi2 j hj])) (q_SE_135 C0.2.2.2.2.1 rfl rfl ⟨Nat.le_of_ble_eq_true rfl, Nat.le_of_ble_eq_true rfl⟩) hB hl.1 rfl rfl (Nat.le_of_ble_eq_true rfl) d_SE_followLeast_93 ⟨Nat.le_of_ble_eq_true rfl, (show 0 + (Wl.map ap).length ≤ 100 by omega)⟩ (fun v_93 q1 H locs hp_93 hB => ?_)
    obtain rfl := hp_93
    have hB : wB g classes A s.heap ((wW a t n kd em br ii oo np ea eb li rn wa wn sT sP ak ap af tt ac ct r q rest L) ++ [(q1, .inl (t 0, (Wl.map ap).length, .inl (fun j => nI ((Wl.map ap).getD j 0))))]) H locs := hB
    refine W.eq (g2 := F0 m 96 ls [.ref q1]) rfl ?_
    refine lv_astore (lv' := [(7, .ref q1), (5, .long (lN (ct u0 / 64))), (0, .ref (a 3)), (1, .int (nI u0)), (2, .int (nI e0)), (3, .int (nI ((bf_nodes tt u0 Wl).getD ((Wl.map ap).length) 0))), (4, .int (nI (Wl.map ap).length))]) C0.1 C0.2.1 d_SE_followLeast_96 hl (by decide) rfl (fun ls hl => ?_)
    refine lv_aload_n C0.1 C0.2.1 d_SE_followLeast_98 rfl (lv_at hl 2 rfl) ?_
    refine gf_SE_56 C0 hB.1 3 rfl rfl d_SE_followLeast_99 ?_
    refine lv_iload C0.1 C0.2.1 d_SE_followLeast_102 (lv_at hl 6 rfl) ?_
    refine lv_iconst (v := nI 1) C0.1 C0.2.1 d_SE_followLeast_104 (by decide) ?_
    refine lv_iadd C0.1 C0.2.1 d_SE_followLeast_105 ?_
    refine ti (show (nI (Wl.map ap).length) + (nI 1) = nI (bf_nodes tt u0 Wl).length from by rw [nI_add, hl1, hl2]) ?_
    refine cMS (As := [.ref (a 22), .int (nI (bf_nodes tt u0 Wl).length)]) (rest := []) C0 (c_AR_copyOf 22 (a 22) 48 (bf_nodes tt u0 Wl).length (fun j => nI (q j)) (fun j => nI ((bf_nodes tt u0 Wl).getD j 0)) rfl (by decide) (by omega) (fun j hj => by rw [hi3 j (by omega)])) (q_SE_135 C0.2.2.2.2.1 rfl rfl ⟨Nat.le_of_ble_eq_true rfl, Nat.le_of_ble_eq_true rfl⟩) hB hl.1 rfl rfl (Nat.le_of_ble_eq_true rfl) d_SE_followLeast_106 ⟨Nat.le_of_ble_eq_true rfl, (show 0 + (Wl.map ap).length + (bf_nodes tt u0 Wl).length ≤ 100 by omega)⟩ (fun v_106 q2 H locs hp_106 hB => ?_)
    obtain rfl := hp_106
    have hB : wB g classes A s.heap (((wW a t n kd em br ii oo np ea eb li rn wa wn sT sP ak ap af tt ac ct r q rest L) ++ [(q1, .inl (t 0, (Wl.map ap).length, .inl (fun j => nI ((Wl.map ap).getD j 0))))]) ++ [(q2, .inl (t 0, (bf_nodes tt u0 Wl).length, .inl (fun j => nI ((bf_nodes tt u0 Wl).getD j 0))))]) H locs := hB
    refine W.eq (g2 := F0 m 109 ls [.ref q2]) rfl ?_
    refine lv_astore (lv' := [(8, .ref q2), (7, .ref q1), (5, .long (lN (ct u0 / 64))), (0, .ref (a 3)), (1, .int (nI u0)), (2, .int (nI e0)), (3, .int (nI ((bf_nodes tt u0 Wl).getD ((Wl.map ap).length) 0))), (4, .int (nI (Wl.map ap).length))]) C0.1 C0.2.1 d_SE_followLeast_109 hl (by decide) rfl (fun ls hl => ?_)
    refine nw_SE_84 C0 hB (Nat.le_of_ble_eq_true rfl) (show 0 + (Wl.map ap).length + (bf_nodes tt u0 Wl).length + 5 ≤ 100 by omega) d_SE_followLeast_111 (fun q3 H hB => ?_)
    refine lv_dup C0.1 C0.2.1 d_SE_followLeast_114 rfl ?_
    refine lv_iload_n C0.1 C0.2.1 d_SE_followLeast_115 rfl (lv_at hl 4 rfl) ?_
    refine lv_iload_n C0.1 C0.2.1 d_SE_followLeast_116 rfl (lv_at hl 5 rfl) ?_
    refine lv_lload C0.1 C0.2.1 d_SE_followLeast_117 (lv_at hl 2 rfl) ?_
    refine lv_aload C0.1 C0.2.1 d_SE_followLeast_119 (lv_at hl 1 rfl) ?_
    refine lv_aload C0.1 C0.2.1 d_SE_followLeast_121 (lv_at hl 0 rfl) ?_
    refine cMI (As := [.int (nI u0), .int (nI e0), .long (lN (ct u0 / 64)), .ref q1, .ref q2]) (rest := [.ref q3]) C0 (c_FW_init q3 (nI u0) (nI e0) (lN (ct u0 / 64)) q1 q2) (q_SE_139 C0.2.2.2.2.1 rfl rfl ⟨Nat.le_of_ble_eq_true rfl, Nat.le_of_ble_eq_true rfl⟩) hB hl.1 rfl rfl (Nat.le_of_ble_eq_true rfl) d_SE_followLeast_123 ⟨Nat.le_of_ble_eq_true rfl, (show 0 + (Wl.map ap).length + (bf_nodes tt u0 Wl).length + 5 + 0 ≤ 100 by omega)⟩ (fun v_123 u_123 H locs hp_123 hB => ?_)
    obtain rfl := hp_123
    have hB : wB g classes A s.heap ((((wW a t n kd em br ii oo np ea eb li rn wa wn sT sP ak ap af tt ac ct r q rest L) ++ [(q1, .inl (t 0, (Wl.map ap).length, .inl (fun j => nI ((Wl.map ap).getD j 0))))]) ++ [(q2, .inl (t 0, (bf_nodes tt u0 Wl).length, .inl (fun j => nI ((bf_nodes tt u0 Wl).getD j 0))))]) ++ [(q3, .inr (4, [.int (nI u0), .int (nI e0), .long (lN (ct u0 / 64)), .ref q1, .ref q2]))]) H locs := hB
    refine W.eq (g2 := F0 m 126 ls [.ref q3]) rfl ?_
    have hB : wB g classes A s.heap (wW a t n kd em br ii oo np ea eb li rn wa wn sT sP ak ap af tt ac ct r q rest (L ++ [(q1, q2, q3, u0, e0, ct u0 / 64, Wl.map ap, (bf_nodes tt u0 Wl))])) H locs := by rw [wW_push]; exact hB
    exact eM_a C0 hr (Or.inl ⟨_, rfl⟩) hlk (q1, q2, q3, r, q) (Or.inr ⟨_, rfl⟩) hB rfl (Nat.le_of_ble_eq_true rfl) (show 0 + (Wl.map ap).length + (bf_nodes tt u0 Wl).length + 5 + 0 ≤ 100 by omega) d_SE_followLeast_126
  · have hk1 : k < Wl.length := by
      rcases Nat.lt_or_ge k Wl.length with z | z
      · exact z
      · exact absurd (by rw [show k = Wl.length by omega, bf_fw_end Wl u0 hW]) c_14
    obtain ⟨g1, g2, g3, g4⟩ := bf_fw_at Wl u0 k hW hk1
    refine lv_iload C0.1 C0.2.1 d_SE_followLeast_17 (lv_at hl 4 rfl) ?_
    refine lv_bipush (v := nI 47) C0.1 C0.2.1 d_SE_followLeast_19 (by decide) ?_
    refine lv_icmp_ge (tgt := 75) C0.1 C0.2.1 d_SE_followLeast_21 (by decide) (fun c_21 => ?_) (fun c_21 => ?_)
    · exact absurd ((nI_leI (by omega) (by omega)).mp c_21) (by omega)
    · refine lv_aload_n C0.1 C0.2.1 d_SE_followLeast_24 rfl (lv_at hl 0 rfl) ?_
      refine lv_iload_n C0.1 C0.2.1 d_SE_followLeast_25 rfl (lv_at hl 3 rfl) ?_
      refine cR (As := [.int (nI ((bf_nodes tt u0 Wl).getD k 0))]) (rest := []) C0 (c_SE_firstLeastArc ((bf_nodes tt u0 Wl).getD k 0) (Wl.getD k 0) (hnd k) g2 g3 g4 hak haf htt hac hct hM) (q_SE_131 C0.2.2.2.2.1 rfl rfl ⟨Nat.le_of_ble_eq_true rfl, Nat.le_of_ble_eq_true rfl⟩) (ci := 3) (q0 := 3) rfl rfl rfl hB.1 hl.1 rfl rfl (Nat.le_of_ble_eq_true rfl) d_SE_followLeast_26 ⟨Nat.zero_le _, Nat.zero_le _⟩ ?_
      refine W.eq (g2 := F0 m 29 ls [.int (nI (Wl.getD k 0))]) rfl ?_
      refine lv_istore (lv' := [(5, .int (nI (Wl.getD k 0))), (0, .ref (a 3)), (1, .int (nI u0)), (2, .int (nI e0)), (3, .int (nI ((bf_nodes tt u0 Wl).getD k 0))), (4, .int (nI k))]) C0.1 C0.2.1 d_SE_followLeast_29 hl (by decide) rfl (fun ls hl => ?_)
      refine lv_iload C0.1 C0.2.1 d_SE_followLeast_31 (lv_at hl 0 rfl) ?_
      refine lv_iconst (v := -1) C0.1 C0.2.1 d_SE_followLeast_33 (by decide) ?_
      refine lv_icmp_ne (tgt := 39) C0.1 C0.2.1 d_SE_followLeast_34 (by decide) (fun c_34 => ?_) (fun c_34 => ?_)
      · refine lv_aload_n C0.1 C0.2.1 d_SE_followLeast_39 rfl (lv_at hl 1 rfl) ?_
        refine gf_SE_39 C0 hB.1 3 rfl rfl d_SE_followLeast_40 ?_
        refine lv_iload C0.1 C0.2.1 d_SE_followLeast_43 (lv_at hl 0 rfl) ?_
        refine ald_i C0 hB.1 18 0 rfl rfl (by omega) (by decide) d_SE_followLeast_45 ?_
        refine ti (show nI (tt (Wl.getD k 0)) = nI ((bf_nodes tt u0 Wl).getD (k + 1) 0) from by rw [bf_nodes_s hk1]) ?_
        refine lv_istore_n (lv' := [(3, .int (nI ((bf_nodes tt u0 Wl).getD (k + 1) 0))), (5, .int (nI (Wl.getD k 0))), (0, .ref (a 3)), (1, .int (nI u0)), (2, .int (nI e0)), (4, .int (nI k))]) C0.1 C0.2.1 d_SE_followLeast_46 rfl hl (by decide) rfl (fun ls hl => ?_)
        refine lv_aload_n C0.1 C0.2.1 d_SE_followLeast_47 rfl (lv_at hl 2 rfl) ?_
        refine gf_SE_53 C0 hB.1 3 rfl rfl d_SE_followLeast_48 ?_
        refine lv_iload C0.1 C0.2.1 d_SE_followLeast_51 (lv_at hl 5 rfl) ?_
        refine lv_aload_n C0.1 C0.2.1 d_SE_followLeast_53 rfl (lv_at hl 2 rfl) ?_
        refine gf_SE_32 C0 hB.1 3 rfl rfl d_SE_followLeast_54 ?_
        refine lv_iload C0.1 C0.2.1 d_SE_followLeast_57 (lv_at hl 1 rfl) ?_
        refine ald_i C0 hB.1 16 0 rfl rfl (by omega) (by decide) d_SE_followLeast_59 ?_
        refine ast_i (w' := (wW a t n kd em br ii oo np ea eb li rn wa wn sT sP ak ap af tt ac ct (va_up r k (ap (Wl.getD k 0))) q rest L)) C0 hB 21 0 rfl rfl (by omega) (by decide) up_nI rfl d_SE_followLeast_60 (fun H locs hB => ?_)
        refine lv_iinc (v := nI (k + 1)) (lv' := [(4, .int (nI (k + 1))), (3, .int (nI ((bf_nodes tt u0 Wl).getD (k + 1) 0))), (5, .int (nI (Wl.getD k 0))), (0, .ref (a 3)), (1, .int (nI u0)), (2, .int (nI e0))]) C0.1 C0.2.1 d_SE_followLeast_61 hl (k := 5) rfl (inc1 _) (by decide) rfl (fun ls hl => ?_)
        refine lv_aload_n C0.1 C0.2.1 d_SE_followLeast_64 rfl (lv_at hl 3 rfl) ?_
        refine gf_SE_56 C0 hB.1 3 rfl rfl d_SE_followLeast_65 ?_
        refine lv_iload C0.1 C0.2.1 d_SE_followLeast_68 (lv_at hl 0 rfl) ?_
        refine lv_iload_n C0.1 C0.2.1 d_SE_followLeast_70 rfl (lv_at hl 1 rfl) ?_
        refine ast_i (w' := (wW a t n kd em br ii oo np ea eb li rn wa wn sT sP ak ap af tt ac ct (va_up r k (ap (Wl.getD k 0))) (va_up q (k + 1) ((bf_nodes tt u0 Wl).getD (k + 1) 0)) rest L)) C0 hB 22 0 rfl rfl (by omega) (by decide) up_nI rfl d_SE_followLeast_71 (fun H locs hB => ?_)
        refine lv_goto (tgt := 12) C0.1 C0.2.1 d_SE_followLeast_72 (by decide) ?_
        exact ih_12 ((k + 1), (va_up r k (ap (Wl.getD k 0))), (va_up q (k + 1) ((bf_nodes tt u0 Wl).getD (k + 1) 0))) (show (k + 1) ≤ Wl.length ∧ (∀ j, j < (k + 1) → (va_up r k (ap (Wl.getD k 0))) j = (Wl.map ap).getD j 0) ∧ ∀ j, j ≤ (k + 1) → (va_up q (k + 1) ((bf_nodes tt u0 Wl).getD (k + 1) 0)) j = (bf_nodes tt u0 Wl).getD j 0 from ⟨by omega, lt_s (fun j hj => by rw [va_up_ne _ _ (show j ≠ k by omega)]; exact hi2 j hj) (by rw [va_up_self, map_gD hk1]), fun j hj => by rcases Nat.lt_or_ge k j with z | z; rw [show j = k + 1 by omega, va_up_self]; rw [va_up_ne _ _ (show j ≠ k + 1 by omega)]; exact hi3 j z⟩) (show Wl.length - (k + 1) < Wl.length - k from by omega) H locs ls hB (lv_sub hl [3, 4, 5, 1, 0] rfl)
      · exact absurd c_34 (nI_m1 (by omega))
end SEARCH3

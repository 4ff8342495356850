set_option maxHeartbeats 4000000 in
set_option maxRecDepth 100000 in
theorem lc_0 {p : Program} {l : Launch} {e : Env} {s : State} {m : MethodId} {below : List Frame} {meth : Method} {c : Code} {g : va_G} {t : Nat → ClassId} {a bb : Nat → Nat} {b0 Ls : Nat} {xs : Nat → Int32} {A : Nat → Prop} (C0 : cX p m c code 4 s #[Value.ref b0] R_LW g classes (tyL t)) (hX : va_X b0 Ls xs s s.heap) (hbl : b0 < s.heap.size) (hbA : ¬ A b0) (hLs : Ls ≤ 2560) {i : Nat} (hi : 5 * i + 5 ≤ Ls) {ls : Array Slot} (hl : lv_has ls 4 [(0, .ref b0), (1, .ref (a 0)), (2, .ref (bb 0)), (3, .int (nI (5 * i)))]) {cells slots : Nat} (hcc : cells + 6 ≤ 600000) (hss : slots + 200 ≤ 7302250) {Q : State → Prop} {n : Nat} {kd : Nat → Nat} {em : Nat → Bool} {br : Nat → Bool} {ii : Nat → Int32} {oo : Nat → Int32} {np : Nat} {ea : Nat → Nat} {eb : Nat → Nat} {li : Nat → Nat} {rn : Nat → Bool} {sT : Nat → Bool} {sP : Nat → Bool} {ak : Nat} {ap : Nat → Nat} {af : Nat → Nat} {tt : Nat → Nat} {ac : Nat → Nat} {ct : Nat → Nat} {rp : Nat → Nat} {rt : Nat → Nat} {L : List Wy} {wp : Nat → Nat} {wl : Nat → Nat} {wf : Nat → Nat} {wt : Nat → Nat} {ct2 : Nat → Nat} {sT2 : Nat → Bool} {sP2 : Nat → Bool} {sa : Nat → Nat} {sb : Nat → Nat} {H : Heap} {locs : List Loc} (hI : LInv n kd em br np ea eb li rn L wp wl wf wt) (hB : wB g classes A s.heap (wW a t n kd em br ii oo np ea eb li rn (waL L) L.length sT sP ak ap af tt ac ct rp rt (mW bb t n kd em br ii oo np ea eb li rn wp wl wf wt L.length ct2 sT2 sP2 sa sb ([])) L) H locs) (K : ∀ (n : Nat) (kd : Nat → Nat) (em : Nat → Bool) (br : Nat → Bool) (ii : Nat → Int32) (oo : Nat → Int32) (np : Nat) (ea : Nat → Nat) (eb : Nat → Nat) (li : Nat → Nat) (rn : Nat → Bool) (sT : Nat → Bool) (sP : Nat → Bool) (ak : Nat) (ap : Nat → Nat) (af : Nat → Nat) (tt : Nat → Nat) (ac : Nat → Nat) (ct : Nat → Nat) (rp : Nat → Nat) (rt : Nat → Nat) (L : List Wy) (wp : Nat → Nat) (wl : Nat → Nat) (wf : Nat → Nat) (wt : Nat → Nat) (ct2 : Nat → Nat) (sT2 : Nat → Bool) (sP2 : Nat → Bool) (sa : Nat → Nat) (sb : Nat → Nat), LInv n kd em br np ea eb li rn L wp wl wf wt → ∀ (H : Heap) (locs : List Loc), wB g classes A s.heap (wW a t n kd em br ii oo np ea eb li rn (waL L) L.length sT sP ak ap af tt ac ct rp rt (mW bb t n kd em br ii oo np ea eb li rn wp wl wf wt L.length ct2 sT2 sP2 sa sb ([])) L) H locs → W p l e room_1 s m #[Value.ref b0] below meth c H locs (cells + 6) (slots + 200) Q (F0 m 652 ls [])) : W p l e room_1 s m #[Value.ref b0] below meth c H locs cells slots Q (F0 m 108 ls []) := by
  obtain ⟨⟨h1, h2, h3, h4, h5, h6, h7, h8, h9, h10⟩, g1, g2, g3⟩ := id hI
  by_cases h48 : n = 48
  · skip
    refine lv_aload_n C0.1 C0.2.1 d_law_108 rfl (lv_at hl 1 rfl) ?_
    refine lv_aload_n C0.1 C0.2.1 d_law_109 rfl (lv_at hl 0 rfl) ?_
    refine lv_iload_n C0.1 C0.2.1 d_law_110 rfl (lv_at hl 3 rfl) ?_
    refine lv_iconst (v := nI 1) C0.1 C0.2.1 d_law_111 (by decide) ?_
    refine lv_iadd C0.1 C0.2.1 d_law_112 ?_
    refine ti (show (nI (5 * i)) + (nI 1) = nI (5 * i + 1) from nI_add _ _) ?_
    refine sld C0 hX hbl hbA hB (show 5 * i + 1 < Ls by omega) (by omega) d_law_113 ?_
    refine wcut (g2 := F0 m 122 ls [.int (bI (decide (¬ xs (5 * i + 1) = 0))), .ref (a 0)]) ?_ (fun T122 => ?_)
    · refine cR (As := [.int (bI (decide (¬ xs (5 * i + 1) = 0)))]) (rest := []) C0 (c_WS_tank_full (decide (¬ xs (5 * i + 1) = 0)) (by omega)) (q_LW_13 C0.2.2.2.2.1 rfl rfl ⟨Nat.le_of_ble_eq_true rfl, Nat.le_of_ble_eq_true rfl⟩) (ci := 0) (q0 := 0) rfl rfl rfl hB.1 hl.1 rfl rfl (Nat.le_of_ble_eq_true rfl) d_law_122 ⟨(show cells ≤ 600000 by omega), (show slots ≤ 7302250 by omega)⟩ ?_
      refine W.eq (g2 := F0 m 125 ls [.int (-5)]) rfl ?_
      refine lv_aload_n C0.1 C0.2.1 d_law_125 rfl (lv_at hl 2 rfl) ?_
      refine lv_aload_n C0.1 C0.2.1 d_law_126 rfl (lv_at hl 0 rfl) ?_
      refine lv_iload_n C0.1 C0.2.1 d_law_127 rfl (lv_at hl 3 rfl) ?_
      refine lv_iconst (v := nI 1) C0.1 C0.2.1 d_law_128 (by decide) ?_
      refine lv_iadd C0.1 C0.2.1 d_law_129 ?_
      refine ti (show (nI (5 * i)) + (nI 1) = nI (5 * i + 1) from nI_add _ _) ?_
      refine sld C0 hX hbl hbA hB (show 5 * i + 1 < Ls by omega) (by omega) d_law_130 ?_
      refine wcut (g2 := F0 m 139 ls [.int (bI (decide (¬ xs (5 * i + 1) = 0))), .ref (bb 0), .int (-5)]) ?_ (fun T139 => ?_)
      · have hM : wB g classes A s.heap (mW bb t n kd em br ii oo np ea eb li rn wp wl wf wt L.length ct2 sT2 sP2 sa sb ((wW a t n kd em br ii oo np ea eb li rn (waL L) L.length sT sP ak ap af tt ac ct rp rt ([]) ([])) ++ wy_W t L)) _ _ := wB.rot (a := (wW a t n kd em br ii oo np ea eb li rn (waL L) L.length sT sP ak ap af tt ac ct rp rt ([]) ([]))) (b := (mW bb t n kd em br ii oo np ea eb li rn wp wl wf wt L.length ct2 sT2 sP2 sa sb ([]))) (y := wy_W t L) hB
        refine cR (As := [.int (bI (decide (¬ xs (5 * i + 1) = 0)))]) (rest := [.int (-5)]) C0 (c_MO_tank_full (decide (¬ xs (5 * i + 1) = 0)) (by omega)) (q_LW_17 C0.2.2.2.2.1 rfl rfl ⟨Nat.le_of_ble_eq_true rfl, Nat.le_of_ble_eq_true rfl⟩) (ci := 5) (q0 := 0) rfl rfl rfl hM.1 hl.1 rfl rfl (Nat.le_of_ble_eq_true rfl) d_law_139 ⟨(show cells ≤ 600000 by omega), (show slots ≤ 7302250 by omega)⟩ ?_
        refine W.eq (g2 := F0 m 142 ls [.int (-5), .int (-5)]) rfl ?_
        refine lv_icmp_eq (tgt := 652) C0.1 C0.2.1 d_law_142 (by decide) (fun _ => ?_) (fun c_142 => ?_)
        · skip
          exact W.widen (by omega) (by omega) (K _ _ _ _ _ _ _ _ _ _ _ _ _ _ _ _ _ _ _ _ _ _ _ _ _ _ _ _ _ _ _ (hI) _ _ hB)
        · exact absurd (rfl) c_142
      · refine lv_if_eq (tgt := 138) C0.1 C0.2.1 d_law_131 (by decide) (fun c_131 => ?_) (fun c_131 => ?_)
        · refine lv_iconst (v := nI 0) C0.1 C0.2.1 d_law_138 (by decide) ?_
          exact ti (show nI 0 = bI (decide (¬ xs (5 * i + 1) = 0)) from by rw [decide_eq_false (fun q => q c_131)]; rfl) T139
        · refine lv_iconst (v := nI 1) C0.1 C0.2.1 d_law_134 (by decide) ?_
          refine lv_goto (tgt := 139) C0.1 C0.2.1 d_law_135 (by decide) ?_
          exact ti (show nI 1 = bI (decide (¬ xs (5 * i + 1) = 0)) from by rw [decide_eq_true (show ¬ xs (5 * i + 1) = 0 from c_131)]; rfl) T139
    · refine lv_if_eq (tgt := 121) C0.1 C0.2.1 d_law_114 (by decide) (fun c_114 => ?_) (fun c_114 => ?_)
      · refine lv_iconst (v := nI 0) C0.1 C0.2.1 d_law_121 (by decide) ?_
        exact ti (show nI 0 = bI (decide (¬ xs (5 * i + 1) = 0)) from by rw [decide_eq_false (fun q => q c_114)]; rfl) T122
      · refine lv_iconst (v := nI 1) C0.1 C0.2.1 d_law_117 (by decide) ?_
        refine lv_goto (tgt := 122) C0.1 C0.2.1 d_law_118 (by decide) ?_
        exact ti (show nI 1 = bI (decide (¬ xs (5 * i + 1) = 0)) from by rw [decide_eq_true (show ¬ xs (5 * i + 1) = 0 from c_114)]; rfl) T122
  · skip
    refine lv_aload_n C0.1 C0.2.1 d_law_108 rfl (lv_at hl 1 rfl) ?_
    refine lv_aload_n C0.1 C0.2.1 d_law_109 rfl (lv_at hl 0 rfl) ?_
    refine lv_iload_n C0.1 C0.2.1 d_law_110 rfl (lv_at hl 3 rfl) ?_
    refine lv_iconst (v := nI 1) C0.1 C0.2.1 d_law_111 (by decide) ?_
    refine lv_iadd C0.1 C0.2.1 d_law_112 ?_
    refine ti (show (nI (5 * i)) + (nI 1) = nI (5 * i + 1) from nI_add _ _) ?_
    refine sld C0 hX hbl hbA hB (show 5 * i + 1 < Ls by omega) (by omega) d_law_113 ?_
    refine wcut (g2 := F0 m 122 ls [.int (bI (decide (¬ xs (5 * i + 1) = 0))), .ref (a 0)]) ?_ (fun T122 => ?_)
    · refine cM (As := [.int (bI (decide (¬ xs (5 * i + 1) = 0)))]) (rest := []) C0 (c_WS_tank (decide (¬ xs (5 * i + 1) = 0)) (by omega)) (q_LW_13 C0.2.2.2.2.1 rfl rfl ⟨Nat.le_of_ble_eq_true rfl, Nat.le_of_ble_eq_true rfl⟩) (ci := 0) (q0 := 0) rfl rfl rfl hB hl.1 rfl rfl (Nat.le_of_ble_eq_true rfl) d_law_122 ⟨(show cells + 0 ≤ 600000 by omega), (show slots + 0 ≤ 7302250 by omega)⟩ (fun v_122 u_122 H locs hp_122 hB => ?_)
      obtain rfl := hp_122
      have hB : wB g classes A s.heap (wW a t (n + 1) (va_up kd n 0) (va_up em n (decide (¬ xs (5 * i + 1) = 0))) br (va_up ii n (-1)) (va_up oo n (-1)) np ea eb li rn (waL L) L.length sT sP ak ap af tt ac ct rp rt (mW bb t n kd em br ii oo np ea eb li rn wp wl wf wt L.length ct2 sT2 sP2 sa sb ([])) L) H locs := hB
      refine W.eq (g2 := F0 m 125 ls [.int (nI n)]) rfl ?_
      refine lv_aload_n C0.1 C0.2.1 d_law_125 rfl (lv_at hl 2 rfl) ?_
      refine lv_aload_n C0.1 C0.2.1 d_law_126 rfl (lv_at hl 0 rfl) ?_
      refine lv_iload_n C0.1 C0.2.1 d_law_127 rfl (lv_at hl 3 rfl) ?_
      refine lv_iconst (v := nI 1) C0.1 C0.2.1 d_law_128 (by decide) ?_
      refine lv_iadd C0.1 C0.2.1 d_law_129 ?_
      refine ti (show (nI (5 * i)) + (nI 1) = nI (5 * i + 1) from nI_add _ _) ?_
      refine sld C0 hX hbl hbA hB (show 5 * i + 1 < Ls by omega) (by omega) d_law_130 ?_
      refine wcut (g2 := F0 m 139 ls [.int (bI (decide (¬ xs (5 * i + 1) = 0))), .ref (bb 0), .int (nI n)]) ?_ (fun T139 => ?_)
      · have hM : wB g classes A s.heap (mW bb t n kd em br ii oo np ea eb li rn wp wl wf wt L.length ct2 sT2 sP2 sa sb ((wW a t (n + 1) (va_up kd n 0) (va_up em n (decide (¬ xs (5 * i + 1) = 0))) br (va_up ii n (-1)) (va_up oo n (-1)) np ea eb li rn (waL L) L.length sT sP ak ap af tt ac ct rp rt ([]) ([])) ++ wy_W t L)) _ _ := wB.rot (a := (wW a t (n + 1) (va_up kd n 0) (va_up em n (decide (¬ xs (5 * i + 1) = 0))) br (va_up ii n (-1)) (va_up oo n (-1)) np ea eb li rn (waL L) L.length sT sP ak ap af tt ac ct rp rt ([]) ([]))) (b := (mW bb t n kd em br ii oo np ea eb li rn wp wl wf wt L.length ct2 sT2 sP2 sa sb ([]))) (y := wy_W t L) hB
        refine cM (As := [.int (bI (decide (¬ xs (5 * i + 1) = 0)))]) (rest := [.int (nI n)]) C0 (c_MO_tank (decide (¬ xs (5 * i + 1) = 0)) (by omega)) (q_LW_17 C0.2.2.2.2.1 rfl rfl ⟨Nat.le_of_ble_eq_true rfl, Nat.le_of_ble_eq_true rfl⟩) (ci := 5) (q0 := 0) rfl rfl rfl hM hl.1 rfl rfl (Nat.le_of_ble_eq_true rfl) d_law_139 ⟨(show cells + 0 + 0 ≤ 600000 by omega), (show slots + 0 + 0 ≤ 7302250 by omega)⟩ (fun v_139 u_139 H locs hp_139 hB => ?_)
        obtain rfl := hp_139
        have hM : wB g classes A s.heap (mW bb t (n + 1) (va_up kd n 0) (va_up em n (decide (¬ xs (5 * i + 1) = 0))) br (va_up ii n (-1)) (va_up oo n (-1)) np ea eb li rn wp wl wf wt L.length ct2 sT2 sP2 sa sb ((wW a t (n + 1) (va_up kd n 0) (va_up em n (decide (¬ xs (5 * i + 1) = 0))) br (va_up ii n (-1)) (va_up oo n (-1)) np ea eb li rn (waL L) L.length sT sP ak ap af tt ac ct rp rt ([]) ([])) ++ wy_W t L)) H locs := hB
        have hB : wB g classes A s.heap (wW a t (n + 1) (va_up kd n 0) (va_up em n (decide (¬ xs (5 * i + 1) = 0))) br (va_up ii n (-1)) (va_up oo n (-1)) np ea eb li rn (waL L) L.length sT sP ak ap af tt ac ct rp rt (mW bb t (n + 1) (va_up kd n 0) (va_up em n (decide (¬ xs (5 * i + 1) = 0))) br (va_up ii n (-1)) (va_up oo n (-1)) np ea eb li rn wp wl wf wt L.length ct2 sT2 sP2 sa sb ([])) L) H locs := wB.rot (a := (mW bb t (n + 1) (va_up kd n 0) (va_up em n (decide (¬ xs (5 * i + 1) = 0))) br (va_up ii n (-1)) (va_up oo n (-1)) np ea eb li rn wp wl wf wt L.length ct2 sT2 sP2 sa sb ([]))) (b := (wW a t (n + 1) (va_up kd n 0) (va_up em n (decide (¬ xs (5 * i + 1) = 0))) br (va_up ii n (-1)) (va_up oo n (-1)) np ea eb li rn (waL L) L.length sT sP ak ap af tt ac ct rp rt ([]) ([]))) (y := wy_W t L) hM
        refine W.eq (g2 := F0 m 142 ls [.int (nI n), .int (nI n)]) rfl ?_
        refine lv_icmp_eq (tgt := 652) C0.1 C0.2.1 d_law_142 (by decide) (fun _ => ?_) (fun c_142 => ?_)
        · skip
          exact W.widen (by omega) (by omega) (K _ _ _ _ _ _ _ _ _ _ _ _ _ _ _ _ _ _ _ _ _ _ _ _ _ _ _ _ _ _ _ (LInv_thing hI (by omega) (by decide) (fun _ => rfl)) _ _ hB)
        · exact absurd (rfl) c_142
      · refine lv_if_eq (tgt := 138) C0.1 C0.2.1 d_law_131 (by decide) (fun c_131 => ?_) (fun c_131 => ?_)
        · refine lv_iconst (v := nI 0) C0.1 C0.2.1 d_law_138 (by decide) ?_
          exact ti (show nI 0 = bI (decide (¬ xs (5 * i + 1) = 0)) from by rw [decide_eq_false (fun q => q c_131)]; rfl) T139
        · refine lv_iconst (v := nI 1) C0.1 C0.2.1 d_law_134 (by decide) ?_
          refine lv_goto (tgt := 139) C0.1 C0.2.1 d_law_135 (by decide) ?_
          exact ti (show nI 1 = bI (decide (¬ xs (5 * i + 1) = 0)) from by rw [decide_eq_true (show ¬ xs (5 * i + 1) = 0 from c_131)]; rfl) T139
    · refine lv_if_eq (tgt := 121) C0.1 C0.2.1 d_law_114 (by decide) (fun c_114 => ?_) (fun c_114 => ?_)
      · refine lv_iconst (v := nI 0) C0.1 C0.2.1 d_law_121 (by decide) ?_
        exact ti (show nI 0 = bI (decide (¬ xs (5 * i + 1) = 0)) from by rw [decide_eq_false (fun q => q c_114)]; rfl) T122
      · refine lv_iconst (v := nI 1) C0.1 C0.2.1 d_law_117 (by decide) ?_
        refine lv_goto (tgt := 122) C0.1 C0.2.1 d_law_118 (by decide) ?_
        exact ti (show nI 1 = bI (decide (¬ xs (5 * i + 1) = 0)) from by rw [decide_eq_true (show ¬ xs (5 * i + 1) = 0 from c_114)]; rfl) T122
set_option maxHeartbeats 4000000 in
set_option maxRecDepth 100000 in
theorem lc_1 {p : Program} {l : Launch} {e : Env} {s : State} {m : MethodId} {below : List Frame} {meth : Method} {c : Code} {g : va_G} {t : Nat → ClassId} {a bb : Nat → Nat} {b0 Ls : Nat} {xs : Nat → Int32} {A : Nat → Prop} (C0 : cX p m c code 4 s #[Value.ref b0] R_LW g classes (tyL t)) (hX : va_X b0 Ls xs s s.heap) (hbl : b0 < s.heap.size) (hbA : ¬ A b0) (hLs : Ls ≤ 2560) {i : Nat} (hi : 5 * i + 5 ≤ Ls) {ls : Array Slot} (hl : lv_has ls 4 [(0, .ref b0), (1, .ref (a 0)), (2, .ref (bb 0)), (3, .int (nI (5 * i)))]) {cells slots : Nat} (hcc : cells + 6 ≤ 600000) (hss : slots + 200 ≤ 7302250) {Q : State → Prop} {n : Nat} {kd : Nat → Nat} {em : Nat → Bool} {br : Nat → Bool} {ii : Nat → Int32} {oo : Nat → Int32} {np : Nat} {ea : Nat → Nat} {eb : Nat → Nat} {li : Nat → Nat} {rn : Nat → Bool} {sT : Nat → Bool} {sP : Nat → Bool} {ak : Nat} {ap : Nat → Nat} {af : Nat → Nat} {tt : Nat → Nat} {ac : Nat → Nat} {ct : Nat → Nat} {rp : Nat → Nat} {rt : Nat → Nat} {L : List Wy} {wp : Nat → Nat} {wl : Nat → Nat} {wf : Nat → Nat} {wt : Nat → Nat} {ct2 : Nat → Nat} {sT2 : Nat → Bool} {sP2 : Nat → Bool} {sa : Nat → Nat} {sb : Nat → Nat} {H : Heap} {locs : List Loc} (hI : LInv n kd em br np ea eb li rn L wp wl wf wt) (hB : wB g classes A s.heap (wW a t n kd em br ii oo np ea eb li rn (waL L) L.length sT sP ak ap af tt ac ct rp rt (mW bb t n kd em br ii oo np ea eb li rn wp wl wf wt L.length ct2 sT2 sP2 sa sb ([])) L) H locs) (K : ∀ (n : Nat) (kd : Nat → Nat) (em : Nat → Bool) (br : Nat → Bool) (ii : Nat → Int32) (oo : Nat → Int32) (np : Nat) (ea : Nat → Nat) (eb : Nat → Nat) (li : Nat → Nat) (rn : Nat → Bool) (sT : Nat → Bool) (sP : Nat → Bool) (ak : Nat) (ap : Nat → Nat) (af : Nat → Nat) (tt : Nat → Nat) (ac : Nat → Nat) (ct : Nat → Nat) (rp : Nat → Nat) (rt : Nat → Nat) (L : List Wy) (wp : Nat → Nat) (wl : Nat → Nat) (wf : Nat → Nat) (wt : Nat → Nat) (ct2 : Nat → Nat) (sT2 : Nat → Bool) (sP2 : Nat → Bool) (sa : Nat → Nat) (sb : Nat → Nat), LInv n kd em br np ea eb li rn L wp wl wf wt → ∀ (H : Heap) (locs : List Loc), wB g classes A s.heap (wW a t n kd em br ii oo np ea eb li rn (waL L) L.length sT sP ak ap af tt ac ct rp rt (mW bb t n kd em br ii oo np ea eb li rn wp wl wf wt L.length ct2 sT2 sP2 sa sb ([])) L) H locs → W p l e room_1 s m #[Value.ref b0] below meth c H locs (cells + 6) (slots + 200) Q (F0 m 652 ls [])) : W p l e room_1 s m #[Value.ref b0] below meth c H locs cells slots Q (F0 m 147 ls []) := by
  obtain ⟨⟨h1, h2, h3, h4, h5, h6, h7, h8, h9, h10⟩, g1, g2, g3⟩ := id hI
  by_cases h48 : n = 48
  · skip
    refine lv_aload_n C0.1 C0.2.1 d_law_147 rfl (lv_at hl 1 rfl) ?_
    refine cR (As := []) (rest := []) C0 (c_WS_pump_full (by omega)) (q_LW_18 C0.2.2.2.2.1 rfl rfl ⟨Nat.le_of_ble_eq_true rfl, Nat.le_of_ble_eq_true rfl⟩) (ci := 0) (q0 := 0) rfl rfl rfl hB.1 hl.1 rfl rfl (Nat.le_of_ble_eq_true rfl) d_law_148 ⟨(show cells ≤ 600000 by omega), (show slots ≤ 7302250 by omega)⟩ ?_
    refine W.eq (g2 := F0 m 151 ls [.int (-5)]) rfl ?_
    refine lv_aload_n C0.1 C0.2.1 d_law_151 rfl (lv_at hl 2 rfl) ?_
    have hM : wB g classes A s.heap (mW bb t n kd em br ii oo np ea eb li rn wp wl wf wt L.length ct2 sT2 sP2 sa sb ((wW a t n kd em br ii oo np ea eb li rn (waL L) L.length sT sP ak ap af tt ac ct rp rt ([]) ([])) ++ wy_W t L)) _ _ := wB.rot (a := (wW a t n kd em br ii oo np ea eb li rn (waL L) L.length sT sP ak ap af tt ac ct rp rt ([]) ([]))) (b := (mW bb t n kd em br ii oo np ea eb li rn wp wl wf wt L.length ct2 sT2 sP2 sa sb ([]))) (y := wy_W t L) hB
    refine cR (As := []) (rest := [.int (-5)]) C0 (c_MO_pump_full (by omega)) (q_LW_22 C0.2.2.2.2.1 rfl rfl ⟨Nat.le_of_ble_eq_true rfl, Nat.le_of_ble_eq_true rfl⟩) (ci := 5) (q0 := 0) rfl rfl rfl hM.1 hl.1 rfl rfl (Nat.le_of_ble_eq_true rfl) d_law_152 ⟨(show cells ≤ 600000 by omega), (show slots ≤ 7302250 by omega)⟩ ?_
    refine W.eq (g2 := F0 m 155 ls [.int (-5), .int (-5)]) rfl ?_
    refine lv_icmp_eq (tgt := 652) C0.1 C0.2.1 d_law_155 (by decide) (fun _ => ?_) (fun c_155 => ?_)
    · skip
      exact W.widen (by omega) (by omega) (K _ _ _ _ _ _ _ _ _ _ _ _ _ _ _ _ _ _ _ _ _ _ _ _ _ _ _ _ _ _ _ (hI) _ _ hB)
    · exact absurd (rfl) c_155
  · skip
    refine lv_aload_n C0.1 C0.2.1 d_law_147 rfl (lv_at hl 1 rfl) ?_
    refine cM (As := []) (rest := []) C0 (c_WS_pump (by omega)) (q_LW_18 C0.2.2.2.2.1 rfl rfl ⟨Nat.le_of_ble_eq_true rfl, Nat.le_of_ble_eq_true rfl⟩) (ci := 0) (q0 := 0) rfl rfl rfl hB hl.1 rfl rfl (Nat.le_of_ble_eq_true rfl) d_law_148 ⟨(show cells + 0 ≤ 600000 by omega), (show slots + 0 ≤ 7302250 by omega)⟩ (fun v_148 u_148 H locs hp_148 hB => ?_)
    obtain rfl := hp_148
    have hB : wB g classes A s.heap (wW a t (n + 1) (va_up kd n 1) (va_up em n false) br (va_up ii n (-1)) (va_up oo n (-1)) np ea eb li rn (waL L) L.length sT sP ak ap af tt ac ct rp rt (mW bb t n kd em br ii oo np ea eb li rn wp wl wf wt L.length ct2 sT2 sP2 sa sb ([])) L) H locs := hB
    refine W.eq (g2 := F0 m 151 ls [.int (nI n)]) rfl ?_
    refine lv_aload_n C0.1 C0.2.1 d_law_151 rfl (lv_at hl 2 rfl) ?_
    have hM : wB g classes A s.heap (mW bb t n kd em br ii oo np ea eb li rn wp wl wf wt L.length ct2 sT2 sP2 sa sb ((wW a t (n + 1) (va_up kd n 1) (va_up em n false) br (va_up ii n (-1)) (va_up oo n (-1)) np ea eb li rn (waL L) L.length sT sP ak ap af tt ac ct rp rt ([]) ([])) ++ wy_W t L)) _ _ := wB.rot (a := (wW a t (n + 1) (va_up kd n 1) (va_up em n false) br (va_up ii n (-1)) (va_up oo n (-1)) np ea eb li rn (waL L) L.length sT sP ak ap af tt ac ct rp rt ([]) ([]))) (b := (mW bb t n kd em br ii oo np ea eb li rn wp wl wf wt L.length ct2 sT2 sP2 sa sb ([]))) (y := wy_W t L) hB
    refine cM (As := []) (rest := [.int (nI n)]) C0 (c_MO_pump (by omega)) (q_LW_22 C0.2.2.2.2.1 rfl rfl ⟨Nat.le_of_ble_eq_true rfl, Nat.le_of_ble_eq_true rfl⟩) (ci := 5) (q0 := 0) rfl rfl rfl hM hl.1 rfl rfl (Nat.le_of_ble_eq_true rfl) d_law_152 ⟨(show cells + 0 + 0 ≤ 600000 by omega), (show slots + 0 + 0 ≤ 7302250 by omega)⟩ (fun v_152 u_152 H locs hp_152 hB => ?_)
    obtain rfl := hp_152
    have hM : wB g classes A s.heap (mW bb t (n + 1) (va_up kd n 1) em br (va_up ii n (-1)) (va_up oo n (-1)) np ea eb li rn wp wl wf wt L.length ct2 sT2 sP2 sa sb ((wW a t (n + 1) (va_up kd n 1) (va_up em n false) br (va_up ii n (-1)) (va_up oo n (-1)) np ea eb li rn (waL L) L.length sT sP ak ap af tt ac ct rp rt ([]) ([])) ++ wy_W t L)) H locs := hB
    have hB : wB g classes A s.heap (wW a t (n + 1) (va_up kd n 1) (va_up em n false) br (va_up ii n (-1)) (va_up oo n (-1)) np ea eb li rn (waL L) L.length sT sP ak ap af tt ac ct rp rt (mW bb t (n + 1) (va_up kd n 1) em br (va_up ii n (-1)) (va_up oo n (-1)) np ea eb li rn wp wl wf wt L.length ct2 sT2 sP2 sa sb ([])) L) H locs := wB.rot (a := (mW bb t (n + 1) (va_up kd n 1) em br (va_up ii n (-1)) (va_up oo n (-1)) np ea eb li rn wp wl wf wt L.length ct2 sT2 sP2 sa sb ([]))) (b := (wW a t (n + 1) (va_up kd n 1) (va_up em n false) br (va_up ii n (-1)) (va_up oo n (-1)) np ea eb li rn (waL L) L.length sT sP ak ap af tt ac ct rp rt ([]) ([]))) (y := wy_W t L) hM
    refine W.eq (g2 := F0 m 155 ls [.int (nI n), .int (nI n)]) rfl ?_
    refine lv_icmp_eq (tgt := 652) C0.1 C0.2.1 d_law_155 (by decide) (fun _ => ?_) (fun c_155 => ?_)
    · have eem : va_up em n false = em := up_id (h8 n (Nat.le_refl _)).1
      rw [eem] at hB
      have hI2 := LInv_thing (k0 := 1) (b0 := false) hI (by omega) (by decide) (fun q => by cases q)
      rw [eem] at hI2
      exact W.widen (by omega) (by omega) (K _ _ _ _ _ _ _ _ _ _ _ _ _ _ _ _ _ _ _ _ _ _ _ _ _ _ _ _ _ _ _ (hI2) _ _ hB)
    · exact absurd (rfl) c_155
set_option maxHeartbeats 4000000 in
set_option maxRecDepth 100000 in
theorem lc_2 {p : Program} {l : Launch} {e : Env} {s : State} {m : MethodId} {below : List Frame} {meth : Method} {c : Code} {g : va_G} {t : Nat → ClassId} {a bb : Nat → Nat} {b0 Ls : Nat} {xs : Nat → Int32} {A : Nat → Prop} (C0 : cX p m c code 4 s #[Value.ref b0] R_LW g classes (tyL t)) (hX : va_X b0 Ls xs s s.heap) (hbl : b0 < s.heap.size) (hbA : ¬ A b0) (hLs : Ls ≤ 2560) {i : Nat} (hi : 5 * i + 5 ≤ Ls) {ls : Array Slot} (hl : lv_has ls 4 [(0, .ref b0), (1, .ref (a 0)), (2, .ref (bb 0)), (3, .int (nI (5 * i)))]) {cells slots : Nat} (hcc : cells + 6 ≤ 600000) (hss : slots + 200 ≤ 7302250) {Q : State → Prop} {n : Nat} {kd : Nat → Nat} {em : Nat → Bool} {br : Nat → Bool} {ii : Nat → Int32} {oo : Nat → Int32} {np : Nat} {ea : Nat → Nat} {eb : Nat → Nat} {li : Nat → Nat} {rn : Nat → Bool} {sT : Nat → Bool} {sP : Nat → Bool} {ak : Nat} {ap : Nat → Nat} {af : Nat → Nat} {tt : Nat → Nat} {ac : Nat → Nat} {ct : Nat → Nat} {rp : Nat → Nat} {rt : Nat → Nat} {L : List Wy} {wp : Nat → Nat} {wl : Nat → Nat} {wf : Nat → Nat} {wt : Nat → Nat} {ct2 : Nat → Nat} {sT2 : Nat → Bool} {sP2 : Nat → Bool} {sa : Nat → Nat} {sb : Nat → Nat} {H : Heap} {locs : List Loc} (hI : LInv n kd em br np ea eb li rn L wp wl wf wt) (hB : wB g classes A s.heap (wW a t n kd em br ii oo np ea eb li rn (waL L) L.length sT sP ak ap af tt ac ct rp rt (mW bb t n kd em br ii oo np ea eb li rn wp wl wf wt L.length ct2 sT2 sP2 sa sb ([])) L) H locs) (K : ∀ (n : Nat) (kd : Nat → Nat) (em : Nat → Bool) (br : Nat → Bool) (ii : Nat → Int32) (oo : Nat → Int32) (np : Nat) (ea : Nat → Nat) (eb : Nat → Nat) (li : Nat → Nat) (rn : Nat → Bool) (sT : Nat → Bool) (sP : Nat → Bool) (ak : Nat) (ap : Nat → Nat) (af : Nat → Nat) (tt : Nat → Nat) (ac : Nat → Nat) (ct : Nat → Nat) (rp : Nat → Nat) (rt : Nat → Nat) (L : List Wy) (wp : Nat → Nat) (wl : Nat → Nat) (wf : Nat → Nat) (wt : Nat → Nat) (ct2 : Nat → Nat) (sT2 : Nat → Bool) (sP2 : Nat → Bool) (sa : Nat → Nat) (sb : Nat → Nat), LInv n kd em br np ea eb li rn L wp wl wf wt → ∀ (H : Heap) (locs : List Loc), wB g classes A s.heap (wW a t n kd em br ii oo np ea eb li rn (waL L) L.length sT sP ak ap af tt ac ct rp rt (mW bb t n kd em br ii oo np ea eb li rn wp wl wf wt L.length ct2 sT2 sP2 sa sb ([])) L) H locs → W p l e room_1 s m #[Value.ref b0] below meth c H locs (cells + 6) (slots + 200) Q (F0 m 652 ls [])) : W p l e room_1 s m #[Value.ref b0] below meth c H locs cells slots Q (F0 m 160 ls []) := by
  obtain ⟨⟨h1, h2, h3, h4, h5, h6, h7, h8, h9, h10⟩, g1, g2, g3⟩ := id hI
  by_cases h48 : n = 48
  · skip
    refine lv_aload_n C0.1 C0.2.1 d_law_160 rfl (lv_at hl 1 rfl) ?_
    refine cR (As := []) (rest := []) C0 (c_WS_valve_full (by omega)) (q_LW_23 C0.2.2.2.2.1 rfl rfl ⟨Nat.le_of_ble_eq_true rfl, Nat.le_of_ble_eq_true rfl⟩) (ci := 0) (q0 := 0) rfl rfl rfl hB.1 hl.1 rfl rfl (Nat.le_of_ble_eq_true rfl) d_law_161 ⟨(show cells ≤ 600000 by omega), (show slots ≤ 7302250 by omega)⟩ ?_
    refine W.eq (g2 := F0 m 164 ls [.int (-5)]) rfl ?_
    refine lv_aload_n C0.1 C0.2.1 d_law_164 rfl (lv_at hl 2 rfl) ?_
    have hM : wB g classes A s.heap (mW bb t n kd em br ii oo np ea eb li rn wp wl wf wt L.length ct2 sT2 sP2 sa sb ((wW a t n kd em br ii oo np ea eb li rn (waL L) L.length sT sP ak ap af tt ac ct rp rt ([]) ([])) ++ wy_W t L)) _ _ := wB.rot (a := (wW a t n kd em br ii oo np ea eb li rn (waL L) L.length sT sP ak ap af tt ac ct rp rt ([]) ([]))) (b := (mW bb t n kd em br ii oo np ea eb li rn wp wl wf wt L.length ct2 sT2 sP2 sa sb ([]))) (y := wy_W t L) hB
    refine cR (As := []) (rest := [.int (-5)]) C0 (c_MO_valve_full (by omega)) (q_LW_26 C0.2.2.2.2.1 rfl rfl ⟨Nat.le_of_ble_eq_true rfl, Nat.le_of_ble_eq_true rfl⟩) (ci := 5) (q0 := 0) rfl rfl rfl hM.1 hl.1 rfl rfl (Nat.le_of_ble_eq_true rfl) d_law_165 ⟨(show cells ≤ 600000 by omega), (show slots ≤ 7302250 by omega)⟩ ?_
    refine W.eq (g2 := F0 m 168 ls [.int (-5), .int (-5)]) rfl ?_
    refine lv_icmp_eq (tgt := 652) C0.1 C0.2.1 d_law_168 (by decide) (fun _ => ?_) (fun c_168 => ?_)
    · skip
      exact W.widen (by omega) (by omega) (K _ _ _ _ _ _ _ _ _ _ _ _ _ _ _ _ _ _ _ _ _ _ _ _ _ _ _ _ _ _ _ (hI) _ _ hB)
    · exact absurd (rfl) c_168
  · skip
    refine lv_aload_n C0.1 C0.2.1 d_law_160 rfl (lv_at hl 1 rfl) ?_
    refine cM (As := []) (rest := []) C0 (c_WS_valve (by omega)) (q_LW_23 C0.2.2.2.2.1 rfl rfl ⟨Nat.le_of_ble_eq_true rfl, Nat.le_of_ble_eq_true rfl⟩) (ci := 0) (q0 := 0) rfl rfl rfl hB hl.1 rfl rfl (Nat.le_of_ble_eq_true rfl) d_law_161 ⟨(show cells + 0 ≤ 600000 by omega), (show slots + 0 ≤ 7302250 by omega)⟩ (fun v_161 u_161 H locs hp_161 hB => ?_)
    obtain rfl := hp_161
    have hB : wB g classes A s.heap (wW a t (n + 1) (va_up kd n 2) (va_up em n false) br (va_up ii n (-1)) (va_up oo n (-1)) np ea eb li rn (waL L) L.length sT sP ak ap af tt ac ct rp rt (mW bb t n kd em br ii oo np ea eb li rn wp wl wf wt L.length ct2 sT2 sP2 sa sb ([])) L) H locs := hB
    refine W.eq (g2 := F0 m 164 ls [.int (nI n)]) rfl ?_
    refine lv_aload_n C0.1 C0.2.1 d_law_164 rfl (lv_at hl 2 rfl) ?_
    have hM : wB g classes A s.heap (mW bb t n kd em br ii oo np ea eb li rn wp wl wf wt L.length ct2 sT2 sP2 sa sb ((wW a t (n + 1) (va_up kd n 2) (va_up em n false) br (va_up ii n (-1)) (va_up oo n (-1)) np ea eb li rn (waL L) L.length sT sP ak ap af tt ac ct rp rt ([]) ([])) ++ wy_W t L)) _ _ := wB.rot (a := (wW a t (n + 1) (va_up kd n 2) (va_up em n false) br (va_up ii n (-1)) (va_up oo n (-1)) np ea eb li rn (waL L) L.length sT sP ak ap af tt ac ct rp rt ([]) ([]))) (b := (mW bb t n kd em br ii oo np ea eb li rn wp wl wf wt L.length ct2 sT2 sP2 sa sb ([]))) (y := wy_W t L) hB
    refine cM (As := []) (rest := [.int (nI n)]) C0 (c_MO_valve (by omega)) (q_LW_26 C0.2.2.2.2.1 rfl rfl ⟨Nat.le_of_ble_eq_true rfl, Nat.le_of_ble_eq_true rfl⟩) (ci := 5) (q0 := 0) rfl rfl rfl hM hl.1 rfl rfl (Nat.le_of_ble_eq_true rfl) d_law_165 ⟨(show cells + 0 + 0 ≤ 600000 by omega), (show slots + 0 + 0 ≤ 7302250 by omega)⟩ (fun v_165 u_165 H locs hp_165 hB => ?_)
    obtain rfl := hp_165
    have hM : wB g classes A s.heap (mW bb t (n + 1) (va_up kd n 2) em br (va_up ii n (-1)) (va_up oo n (-1)) np ea eb li rn wp wl wf wt L.length ct2 sT2 sP2 sa sb ((wW a t (n + 1) (va_up kd n 2) (va_up em n false) br (va_up ii n (-1)) (va_up oo n (-1)) np ea eb li rn (waL L) L.length sT sP ak ap af tt ac ct rp rt ([]) ([])) ++ wy_W t L)) H locs := hB
    have hB : wB g classes A s.heap (wW a t (n + 1) (va_up kd n 2) (va_up em n false) br (va_up ii n (-1)) (va_up oo n (-1)) np ea eb li rn (waL L) L.length sT sP ak ap af tt ac ct rp rt (mW bb t (n + 1) (va_up kd n 2) em br (va_up ii n (-1)) (va_up oo n (-1)) np ea eb li rn wp wl wf wt L.length ct2 sT2 sP2 sa sb ([])) L) H locs := wB.rot (a := (mW bb t (n + 1) (va_up kd n 2) em br (va_up ii n (-1)) (va_up oo n (-1)) np ea eb li rn wp wl wf wt L.length ct2 sT2 sP2 sa sb ([]))) (b := (wW a t (n + 1) (va_up kd n 2) (va_up em n false) br (va_up ii n (-1)) (va_up oo n (-1)) np ea eb li rn (waL L) L.length sT sP ak ap af tt ac ct rp rt ([]) ([]))) (y := wy_W t L) hM
    refine W.eq (g2 := F0 m 168 ls [.int (nI n), .int (nI n)]) rfl ?_
    refine lv_icmp_eq (tgt := 652) C0.1 C0.2.1 d_law_168 (by decide) (fun _ => ?_) (fun c_168 => ?_)
    · have eem : va_up em n false = em := up_id (h8 n (Nat.le_refl _)).1
      rw [eem] at hB
      have hI2 := LInv_thing (k0 := 2) (b0 := false) hI (by omega) (by decide) (fun q => by cases q)
      rw [eem] at hI2
      exact W.widen (by omega) (by omega) (K _ _ _ _ _ _ _ _ _ _ _ _ _ _ _ _ _ _ _ _ _ _ _ _ _ _ _ _ _ _ _ (hI2) _ _ hB)
    · exact absurd (rfl) c_168

theorem law_lt {L k : Nat} (hL : L ≤ 2560) (hk : k ≤ 2560) : nI L - nI 5 < nI k ↔ L < k + 5 := by
  rw [Int32.lt_iff_toInt_lt, Int32.toInt_sub, nI_toInt (show L < 2 ^ 31 by omega), nI_toInt (show 5 < 2 ^ 31 by omega), nI_toInt (show k < 2 ^ 31 by omega), Int.bmod_eq_of_le (by omega) (by omega)]
  omega
set_option maxHeartbeats 4000000 in
set_option maxRecDepth 100000 in
theorem law_one {p : Program} {l : Launch} {e : Env} {s : State} {m : MethodId} {below : List Frame} {meth : Method} {c : Code} {g : va_G} {t : Nat → ClassId} {a bb : Nat → Nat} {b0 Ls : Nat} {xs : Nat → Int32} {A : Nat → Prop} (C0 : cX p m c code 4 s #[Value.ref b0] R_LW g classes (tyL t)) (hX : va_X b0 Ls xs s s.heap) (hbl : b0 < s.heap.size) (hbA : ¬ A b0) (hLs : Ls ≤ 2560) (hA : ∀ q, A q → s.heap.size ≤ q) (hr : meth.sig.returnType = ret) (hlk : meth.locks = false) {i : Nat} (hi0 : 5 * i ≤ Ls) (ih : 5 * i + 5 ≤ Ls → ∀ (ls : Array Slot), lv_has ls 4 [(0, .ref b0), (1, .ref (a 0)), (2, .ref (bb 0)), (3, .int (nI (5 * (i + 1))))] → ∀ (n : Nat) (kd : Nat → Nat) (em : Nat → Bool) (br : Nat → Bool) (ii : Nat → Int32) (oo : Nat → Int32) (np : Nat) (ea : Nat → Nat) (eb : Nat → Nat) (li : Nat → Nat) (rn : Nat → Bool) (sT : Nat → Bool) (sP : Nat → Bool) (ak : Nat) (ap : Nat → Nat) (af : Nat → Nat) (tt : Nat → Nat) (ac : Nat → Nat) (ct : Nat → Nat) (rp : Nat → Nat) (rt : Nat → Nat) (L : List Wy) (wp : Nat → Nat) (wl : Nat → Nat) (wf : Nat → Nat) (wt : Nat → Nat) (ct2 : Nat → Nat) (sT2 : Nat → Bool) (sP2 : Nat → Bool) (sa : Nat → Nat) (sb : Nat → Nat), LInv n kd em br np ea eb li rn L wp wl wf wt → ∀ (H : Heap) (locs : List Loc), wB g classes A s.heap (wW a t n kd em br ii oo np ea eb li rn (waL L) L.length sT sP ak ap af tt ac ct rp rt (mW bb t n kd em br ii oo np ea eb li rn wp wl wf wt L.length ct2 sT2 sP2 sa sb ([])) L) H locs → W p l e room_1 s m #[Value.ref b0] below meth c H locs (42 + 6 * (i + 1)) (5969 + 200 * (i + 1)) (lw_Z below #[Value.ref b0] s) (F0 m 18 ls [])) {ls : Array Slot} (hl : lv_has ls 4 [(0, .ref b0), (1, .ref (a 0)), (2, .ref (bb 0)), (3, .int (nI (5 * i)))]) {n : Nat} {kd : Nat → Nat} {em : Nat → Bool} {br : Nat → Bool} {ii : Nat → Int32} {oo : Nat → Int32} {np : Nat} {ea : Nat → Nat} {eb : Nat → Nat} {li : Nat → Nat} {rn : Nat → Bool} {sT : Nat → Bool} {sP : Nat → Bool} {ak : Nat} {ap : Nat → Nat} {af : Nat → Nat} {tt : Nat → Nat} {ac : Nat → Nat} {ct : Nat → Nat} {rp : Nat → Nat} {rt : Nat → Nat} {L : List Wy} {wp : Nat → Nat} {wl : Nat → Nat} {wf : Nat → Nat} {wt : Nat → Nat} {ct2 : Nat → Nat} {sT2 : Nat → Bool} {sP2 : Nat → Bool} {sa : Nat → Nat} {sb : Nat → Nat} (hI : LInv n kd em br np ea eb li rn L wp wl wf wt) {H : Heap} {locs : List Loc} (hB : wB g classes A s.heap (wW a t n kd em br ii oo np ea eb li rn (waL L) L.length sT sP ak ap af tt ac ct rp rt (mW bb t n kd em br ii oo np ea eb li rn wp wl wf wt L.length ct2 sT2 sP2 sa sb ([])) L) H locs) : W p l e room_1 s m #[Value.ref b0] below meth c H locs (42 + 6 * i) (5969 + 200 * i) (lw_Z below #[Value.ref b0] s) (F0 m 18 ls []) := by
  refine lv_iload_n C0.1 C0.2.1 d_law_18 rfl (lv_at hl 3 rfl) ?_
  refine lv_aload_n C0.1 C0.2.1 d_law_19 rfl (lv_at hl 0 rfl) ?_
  refine va_slen C0.1 C0.2.1 hX hbl hbA hB.2.2.1 d_law_20 ?_
  refine ti (show Int32.ofNat Ls = nI Ls from rfl) ?_
  refine lv_iconst (v := nI 5) C0.1 C0.2.1 d_law_21 (by decide) ?_
  refine lv_isub C0.1 C0.2.1 d_law_22 ?_
  refine lv_icmp_gt (tgt := 658) C0.1 C0.2.1 d_law_23 (by decide) (fun c1 => ?_) (fun c1 => ?_)
  · refine lv_iconst (v := 1) C0.1 C0.2.1 d_law_658 (by decide) ?_
    refine va_forget (fun q hq => hA _ (hB.2.2.1.2.2 q hq)) ?_
    refine W.widen (k := 600000) (n := 7302250) (by omega) (by omega) ?_
    exact lw_ret C0.1 C0.2.1 hr hlk d_law_659
  · rw [law_lt hLs (by omega)] at c1
    have hi : 5 * i + 5 ≤ Ls := by omega
    have K : ∀ (n : Nat) (kd : Nat → Nat) (em : Nat → Bool) (br : Nat → Bool) (ii : Nat → Int32) (oo : Nat → Int32) (np : Nat) (ea : Nat → Nat) (eb : Nat → Nat) (li : Nat → Nat) (rn : Nat → Bool) (sT : Nat → Bool) (sP : Nat → Bool) (ak : Nat) (ap : Nat → Nat) (af : Nat → Nat) (tt : Nat → Nat) (ac : Nat → Nat) (ct : Nat → Nat) (rp : Nat → Nat) (rt : Nat → Nat) (L : List Wy) (wp : Nat → Nat) (wl : Nat → Nat) (wf : Nat → Nat) (wt : Nat → Nat) (ct2 : Nat → Nat) (sT2 : Nat → Bool) (sP2 : Nat → Bool) (sa : Nat → Nat) (sb : Nat → Nat), LInv n kd em br np ea eb li rn L wp wl wf wt → ∀ (H : Heap) (locs : List Loc), wB g classes A s.heap (wW a t n kd em br ii oo np ea eb li rn (waL L) L.length sT sP ak ap af tt ac ct rp rt (mW bb t n kd em br ii oo np ea eb li rn wp wl wf wt L.length ct2 sT2 sP2 sa sb ([])) L) H locs → W p l e room_1 s m #[Value.ref b0] below meth c H locs (42 + 6 * i + 6) (5969 + 200 * i + 200) (lw_Z below #[Value.ref b0] s) (F0 m 652 ls []) := by
      intro n kd em br ii oo np ea eb li rn sT sP ak ap af tt ac ct rp rt L wp wl wf wt ct2 sT2 sP2 sa sb hI H locs hB
      refine lv_iinc (v := nI (5 * i + 5)) (lv' := [(3, .int (nI (5 * i + 5))), (0, .ref b0), (1, .ref (a 0)), (2, .ref (bb 0))]) C0.1 C0.2.1 d_law_652 hl (k := 3) rfl (incn _ 5) (by decide) rfl (fun ls hl => ?_)
      refine lv_goto (tgt := 18) C0.1 C0.2.1 d_law_655 (by decide) ?_
      exact W.widen (by omega) (by omega) (ih hi ls (lv_sub hl [1, 2, 3, 0] rfl) _ _ _ _ _ _ _ _ _ _ _ _ _ _ _ _ _ _ _ _ _ _ _ _ _ _ _ _ _ _ _ hI H locs hB)
    refine lv_aload_n C0.1 C0.2.1 d_law_26 rfl (lv_at hl 0 rfl) ?_
    refine lv_iload_n C0.1 C0.2.1 d_law_27 rfl (lv_at hl 3 rfl) ?_
    refine sld C0 hX hbl hbA hB (show 5 * i < Ls by omega) (by omega) d_law_28 ?_
    refine lv_bipush (v := nI 15) C0.1 C0.2.1 d_law_29 (by decide) ?_
    refine lv_iand C0.1 C0.2.1 d_law_31 ?_
    obtain ⟨j, hj, ej⟩ := pk_andE (xs (5 * i)) (m := nI 15) 4 (by decide)
    refine ti ej ?_
    match j, hj with
    | 0, _ =>
      refine lv_tableIn (off := 76) (tgt := 108) C0.1 C0.2.1 d_law_32 (by decide) (by decide) rfl (by decide) ?_
      exact lc_0 C0 hX hbl hbA hLs hi hl (by omega) (by omega) hI hB K
    | 1, _ =>
      refine lv_tableIn (off := 115) (tgt := 147) C0.1 C0.2.1 d_law_32 (by decide) (by decide) rfl (by decide) ?_
      exact lc_1 C0 hX hbl hbA hLs hi hl (by omega) (by omega) hI hB K
    | 2, _ =>
      refine lv_tableIn (off := 128) (tgt := 160) C0.1 C0.2.1 d_law_32 (by decide) (by decide) rfl (by decide) ?_
      exact lc_2 C0 hX hbl hbA hLs hi hl (by omega) (by omega) hI hB K
    | 3, _ =>
      refine lv_tableIn (off := 141) (tgt := 173) C0.1 C0.2.1 d_law_32 (by decide) (by decide) rfl (by decide) ?_
      exact lc_3 C0 hX hbl hbA hLs hi hl (by omega) (by omega) hI hB K
    | 4, _ =>
      refine lv_tableIn (off := 214) (tgt := 246) C0.1 C0.2.1 d_law_32 (by decide) (by decide) rfl (by decide) ?_
      exact lc_4 C0 hX hbl hbA hLs hi hl (by omega) (by omega) hI hB K
    | 5, _ =>
      refine lv_tableIn (off := 263) (tgt := 295) C0.1 C0.2.1 d_law_32 (by decide) (by decide) rfl (by decide) ?_
      exact lc_5 C0 hX hbl hbA hLs hi hl (by omega) (by omega) hI hB K
    | 6, _ =>
      refine lv_tableIn (off := 312) (tgt := 344) C0.1 C0.2.1 d_law_32 (by decide) (by decide) rfl (by decide) ?_
      exact lc_6 C0 hX hbl hbA hLs hi hl (by omega) (by omega) hI hB K
    | 7, _ =>
      refine lv_tableIn (off := 345) (tgt := 377) C0.1 C0.2.1 d_law_32 (by decide) (by decide) rfl (by decide) ?_
      exact lc_7 C0 hX hbl hbA hLs hi hl (by omega) (by omega) hI hB K
    | 8, _ =>
      refine lv_tableIn (off := 378) (tgt := 410) C0.1 C0.2.1 d_law_32 (by decide) (by decide) rfl (by decide) ?_
      exact lc_8 C0 hX hbl hbA hLs hi hl (by omega) (by omega) hI hB K
    | 9, _ =>
      refine lv_tableIn (off := 411) (tgt := 443) C0.1 C0.2.1 d_law_32 (by decide) (by decide) rfl (by decide) ?_
      exact lc_9 C0 hX hbl hbA hLs hi hl (by omega) (by omega) hI hB K
    | 10, _ =>
      refine lv_tableIn (off := 435) (tgt := 467) C0.1 C0.2.1 d_law_32 (by decide) (by decide) rfl (by decide) ?_
      exact lc_10 C0 hX hbl hbA hLs hi hl (by omega) (by omega) hI hB K
    | 11, _ =>
      refine lv_tableIn (off := 468) (tgt := 500) C0.1 C0.2.1 d_law_32 (by decide) (by decide) rfl (by decide) ?_
      exact lc_11 C0 hX hbl hbA hLs hi hl (by omega) (by omega) hI hB K
    | 12, _ =>
      refine lv_tableIn (off := 521) (tgt := 553) C0.1 C0.2.1 d_law_32 (by decide) (by decide) rfl (by decide) ?_
      exact lc_12 C0 hX hbl hbA hLs hi hl (by omega) (by omega) hI hB K
    | 13, _ =>
      refine lv_tableIn (off := 564) (tgt := 596) C0.1 C0.2.1 d_law_32 (by decide) (by decide) rfl (by decide) ?_
      exact lc_13 C0 hX hbl hbA hLs hi hl (by omega) (by omega) hI hB K
    | 14, _ =>
      refine lv_tableIn (off := 587) (tgt := 619) C0.1 C0.2.1 d_law_32 (by decide) (by decide) rfl (by decide) ?_
      exact lc_14 C0 hX hbl hbA hLs hi hl (by omega) (by omega) hI hB K
    | 15, _ =>
      refine lv_tableOut (tgt := 652) C0.1 C0.2.1 d_law_32 (by decide) (by decide) ?_
      exact W.widen (by omega) (by omega) (K _ _ _ _ _ _ _ _ _ _ _ _ _ _ _ _ _ _ _ _ _ _ _ _ _ _ _ _ _ _ _ hI H locs hB)
    | k + 16, hk => exact absurd hk (by omega)
theorem law_loop {p : Program} {l : Launch} {e : Env} {s : State} {m : MethodId} {below : List Frame} {meth : Method} {c : Code} {g : va_G} {t : Nat → ClassId} {a bb : Nat → Nat} {b0 Ls : Nat} {xs : Nat → Int32} {A : Nat → Prop} (C0 : cX p m c code 4 s #[Value.ref b0] R_LW g classes (tyL t)) (hX : va_X b0 Ls xs s s.heap) (hbl : b0 < s.heap.size) (hbA : ¬ A b0) (hLs : Ls ≤ 2560) (hA : ∀ q, A q → s.heap.size ≤ q) (hr : meth.sig.returnType = ret) (hlk : meth.locks = false) : ∀ (d i : Nat), i + d = 512 → 5 * i ≤ Ls → ∀ (ls : Array Slot), lv_has ls 4 [(0, .ref b0), (1, .ref (a 0)), (2, .ref (bb 0)), (3, .int (nI (5 * i)))] → ∀ (n : Nat) (kd : Nat → Nat) (em : Nat → Bool) (br : Nat → Bool) (ii : Nat → Int32) (oo : Nat → Int32) (np : Nat) (ea : Nat → Nat) (eb : Nat → Nat) (li : Nat → Nat) (rn : Nat → Bool) (sT : Nat → Bool) (sP : Nat → Bool) (ak : Nat) (ap : Nat → Nat) (af : Nat → Nat) (tt : Nat → Nat) (ac : Nat → Nat) (ct : Nat → Nat) (rp : Nat → Nat) (rt : Nat → Nat) (L : List Wy) (wp : Nat → Nat) (wl : Nat → Nat) (wf : Nat → Nat) (wt : Nat → Nat) (ct2 : Nat → Nat) (sT2 : Nat → Bool) (sP2 : Nat → Bool) (sa : Nat → Nat) (sb : Nat → Nat), LInv n kd em br np ea eb li rn L wp wl wf wt → ∀ (H : Heap) (locs : List Loc), wB g classes A s.heap (wW a t n kd em br ii oo np ea eb li rn (waL L) L.length sT sP ak ap af tt ac ct rp rt (mW bb t n kd em br ii oo np ea eb li rn wp wl wf wt L.length ct2 sT2 sP2 sa sb ([])) L) H locs → W p l e room_1 s m #[Value.ref b0] below meth c H locs (42 + 6 * i) (5969 + 200 * i) (lw_Z below #[Value.ref b0] s) (F0 m 18 ls []) := by
  intro d
  induction d with
  | zero =>
    intro i hd hi ls hl n kd em br ii oo np ea eb li rn sT sP ak ap af tt ac ct rp rt L wp wl wf wt ct2 sT2 sP2 sa sb hI H locs hB
    exact law_one C0 hX hbl hbA hLs hA hr hlk hi (fun q => absurd q (by omega)) hl hI hB
  | succ d ih =>
    intro i hd hi ls hl n kd em br ii oo np ea eb li rn sT sP ak ap af tt ac ct rp rt L wp wl wf wt ct2 sT2 sP2 sa sb hI H locs hB
    exact law_one C0 hX hbl hbA hLs hA hr hlk hi (fun q => ih (i + 1) (by omega) (by omega)) hl hI hB
theorem law_inv0 : LInv 0 (fun _ => 0) (fun _ => false) (fun _ => false) 0 (fun _ => 0) (fun _ => 0) (fun _ => 0) (fun _ => false) [] (fun _ => 0) (fun _ => 0) (fun _ => 0) (fun _ => 0) :=
  ⟨⟨by omega, by omega, fun _ => (show 0 < 3 by decide), fun _ h => absurd h (Nat.not_lt_zero _), fun _ h => absurd h (Nat.not_lt_zero _), fun _ h => absurd h (Nat.not_lt_zero _), fun _ h => absurd h (Nat.not_lt_zero _), fun _ _ => ⟨rfl, rfl⟩, fun _ _ => rfl, fun _ h => by cases h⟩, by simp, fun _ h => (by cases h), fun _ _ h => (by simp at h)⟩
set_option maxHeartbeats 4000000 in
set_option maxRecDepth 100000 in
/-- from the entry, for every script of at most 2560 ints, the law comes to its end with true -/
theorem whole_start {p : Program} {e : Env} {s : State} {m : MethodId} {below : List Frame} {meth : Method} {c : Code} (l : Launch) {b L : Nat} {xs : Nat → Int32} (hL : L ≤ 2560) (C0 : lw_At p s m meth c b L xs) : W p l e room_1 s m #[Value.ref b] below meth c s.heap [] 0 0 (lw_Z below #[Value.ref b] s) (entryFrame m ([Value.ref b] : List Value).toArray 4) := by
  obtain ⟨hx, hcode, hret, hml, hown, hts, hX, hbl, hlk, -⟩ := C0
  obtain ⟨⟨g, t, hK⟩, hxW⟩ := law_known hts
  have C0 : cX p m c code 4 s #[Value.ref b] R_LW g classes (tyL t) := ⟨hx, hcode, hml, hown, fun w h => hts w (List.mem_filter.mp h).1, hK⟩
  have hl := lv_entry [Value.ref b] (n := 4) (Nat.le_of_ble_eq_true rfl)
  rw [lg_entry_eq]
  revert hl
  generalize (lg_sl [Value.ref b] ++ List.replicate (4 - (lg_sl [Value.ref b]).length) Slot.unset).toArray = ls
  intro hl
  have hl : lv_has ls 4 [(0, .ref b)] := hl
  have hB : wB g classes (fun q => s.heap.size ≤ q) s.heap [] s.heap [] := ⟨fun k q h => (by simp at h), ⟨fun i j p q h => (by simp at h), fun k q h => (by simp at h)⟩, va_S.rf, fun _ h => h⟩
  refine nw_LW_7 C0 hB (Nat.le_of_ble_eq_true rfl) (Nat.le_of_ble_eq_true rfl) d_law_0 (fun o H hB => ?_)
  refine lv_dup C0.1 C0.2.1 d_law_3 rfl ?_
  have hB : wB g classes (fun q => s.heap.size ≤ q) s.heap [(o, .inr (0, [.null, .null, .null, .null, .int 0]))] H [] := hB
  refine cMX (As := []) (rest := [.ref o]) C0 hxW (c_WS_init o) (q_LW_9 C0.2.2.2.2.1 rfl rfl ⟨Nat.le_of_ble_eq_true rfl, Nat.le_of_ble_eq_true rfl⟩) hB hl.1 rfl rfl (Nat.le_of_ble_eq_true rfl) d_law_4 ⟨Nat.le_of_ble_eq_true rfl, Nat.le_of_ble_eq_true rfl⟩ (fun v a H locs hp hB9 => ?_)
  obtain ⟨rfl, rfl⟩ := hp
  have hB : wB g classes (fun q => s.heap.size ≤ q) s.heap (wW a t 0 (fun _ => 0) (fun _ => false) (fun _ => false) (fun _ => 0) (fun _ => 0) 0 (fun _ => 0) (fun _ => 0) (fun _ => 0) (fun _ => false) (fun _ => none) 0 (fun _ => false) (fun _ => false) 0 (fun _ => 0) (fun _ => 0) (fun _ => 0) (fun _ => 0) (fun _ => 0) (fun _ => 0) (fun _ => 0) ([]) ([])) H locs := hB9
  refine W.eq (g2 := F0 m 7 ls [.ref (a 0)]) rfl ?_
  refine lv_astore_n (lv' := [(1, .ref (a 0)), (0, .ref b)]) C0.1 C0.2.1 d_law_7 rfl hl (by decide) rfl (fun ls hl => ?_)
  refine nw_LW_10 C0 hB (Nat.le_of_ble_eq_true rfl) (Nat.le_of_ble_eq_true rfl) d_law_8 (fun o H hB => ?_)
  refine lv_dup C0.1 C0.2.1 d_law_11 rfl ?_
  have hB : wB g classes (fun q => s.heap.size ≤ q) s.heap ((o, .inr (5, [.null, .null, .null, .null, .null, .int 0, .null, .null, .null, .null, .int 0, .null, .null, .null, .null, .int 0, .null, .null, .null, .null, .null])) :: (wW a t 0 (fun _ => 0) (fun _ => false) (fun _ => false) (fun _ => 0) (fun _ => 0) 0 (fun _ => 0) (fun _ => 0) (fun _ => 0) (fun _ => false) (fun _ => none) 0 (fun _ => false) (fun _ => false) 0 (fun _ => 0) (fun _ => 0) (fun _ => 0) (fun _ => 0) (fun _ => 0) (fun _ => 0) (fun _ => 0) ([]) ([]))) H locs := wB.swap (a := []) (b := (wW a t 0 (fun _ => 0) (fun _ => false) (fun _ => false) (fun _ => 0) (fun _ => 0) 0 (fun _ => 0) (fun _ => 0) (fun _ => 0) (fun _ => false) (fun _ => none) 0 (fun _ => false) (fun _ => false) 0 (fun _ => 0) (fun _ => 0) (fun _ => 0) (fun _ => 0) (fun _ => 0) (fun _ => 0) (fun _ => 0) ([]) ([]))) (c := [(o, .inr (5, [.null, .null, .null, .null, .null, .int 0, .null, .null, .null, .null, .int 0, .null, .null, .null, .null, .int 0, .null, .null, .null, .null, .null]))]) hB
  refine cMI (As := []) (rest := [.ref o]) C0 (c_MO_init o) (q_LW_12 C0.2.2.2.2.1 rfl rfl ⟨Nat.le_of_ble_eq_true rfl, Nat.le_of_ble_eq_true rfl⟩) hB hl.1 rfl rfl (Nat.le_of_ble_eq_true rfl) d_law_12 ⟨Nat.le_of_ble_eq_true rfl, Nat.le_of_ble_eq_true rfl⟩ (fun v bb H locs hp hB9 => ?_)
  obtain ⟨rfl, rfl⟩ := hp
  have hB : wB g classes (fun q => s.heap.size ≤ q) s.heap (mW bb t 0 (fun _ => 0) (fun _ => false) (fun _ => false) (fun _ => 0) (fun _ => 0) 0 (fun _ => 0) (fun _ => 0) (fun _ => 0) (fun _ => false) (fun _ => 0) (fun _ => 0) (fun _ => 0) (fun _ => 0) 0 (fun _ => 0) (fun _ => false) (fun _ => false) (fun _ => 0) (fun _ => 0) (wW a t 0 (fun _ => 0) (fun _ => false) (fun _ => false) (fun _ => 0) (fun _ => 0) 0 (fun _ => 0) (fun _ => 0) (fun _ => 0) (fun _ => false) (fun _ => none) 0 (fun _ => false) (fun _ => false) 0 (fun _ => 0) (fun _ => 0) (fun _ => 0) (fun _ => 0) (fun _ => 0) (fun _ => 0) (fun _ => 0) ([]) ([]))) H locs := hB9
  have hB : wB g classes (fun q => s.heap.size ≤ q) s.heap (mW bb t 0 (fun _ => 0) (fun _ => false) (fun _ => false) (fun _ => 0) (fun _ => 0) 0 (fun _ => 0) (fun _ => 0) (fun _ => 0) (fun _ => false) (fun _ => 0) (fun _ => 0) (fun _ => 0) (fun _ => 0) 0 (fun _ => 0) (fun _ => false) (fun _ => false) (fun _ => 0) (fun _ => 0) ((wW a t 0 (fun _ => 0) (fun _ => false) (fun _ => false) (fun _ => 0) (fun _ => 0) 0 (fun _ => 0) (fun _ => 0) (fun _ => 0) (fun _ => false) (fun _ => none) 0 (fun _ => false) (fun _ => false) 0 (fun _ => 0) (fun _ => 0) (fun _ => 0) (fun _ => 0) (fun _ => 0) (fun _ => 0) (fun _ => 0) ([]) ([])) ++ wy_W t [])) H locs := hB
  have hB : wB g classes (fun q => s.heap.size ≤ q) s.heap (wW a t 0 (fun _ => 0) (fun _ => false) (fun _ => false) (fun _ => 0) (fun _ => 0) 0 (fun _ => 0) (fun _ => 0) (fun _ => 0) (fun _ => false) (fun _ => none) 0 (fun _ => false) (fun _ => false) 0 (fun _ => 0) (fun _ => 0) (fun _ => 0) (fun _ => 0) (fun _ => 0) (fun _ => 0) (fun _ => 0) (mW bb t 0 (fun _ => 0) (fun _ => false) (fun _ => false) (fun _ => 0) (fun _ => 0) 0 (fun _ => 0) (fun _ => 0) (fun _ => 0) (fun _ => false) (fun _ => 0) (fun _ => 0) (fun _ => 0) (fun _ => 0) 0 (fun _ => 0) (fun _ => false) (fun _ => false) (fun _ => 0) (fun _ => 0) ([])) ([])) H locs := wB.rot (a := (mW bb t 0 (fun _ => 0) (fun _ => false) (fun _ => false) (fun _ => 0) (fun _ => 0) 0 (fun _ => 0) (fun _ => 0) (fun _ => 0) (fun _ => false) (fun _ => 0) (fun _ => 0) (fun _ => 0) (fun _ => 0) 0 (fun _ => 0) (fun _ => false) (fun _ => false) (fun _ => 0) (fun _ => 0) ([]))) (b := (wW a t 0 (fun _ => 0) (fun _ => false) (fun _ => false) (fun _ => 0) (fun _ => 0) 0 (fun _ => 0) (fun _ => 0) (fun _ => 0) (fun _ => false) (fun _ => none) 0 (fun _ => false) (fun _ => false) 0 (fun _ => 0) (fun _ => 0) (fun _ => 0) (fun _ => 0) (fun _ => 0) (fun _ => 0) (fun _ => 0) ([]) ([]))) (y := wy_W t []) hB
  have hB : wB g classes (fun q => s.heap.size ≤ q) s.heap (wW a t 0 (fun _ => 0) (fun _ => false) (fun _ => false) (fun _ => 0) (fun _ => 0) 0 (fun _ => 0) (fun _ => 0) (fun _ => 0) (fun _ => false) (waL ([] : List Wy)) (([] : List Wy).length) (fun _ => false) (fun _ => false) 0 (fun _ => 0) (fun _ => 0) (fun _ => 0) (fun _ => 0) (fun _ => 0) (fun _ => 0) (fun _ => 0) (mW bb t 0 (fun _ => 0) (fun _ => false) (fun _ => false) (fun _ => 0) (fun _ => 0) 0 (fun _ => 0) (fun _ => 0) (fun _ => 0) (fun _ => false) (fun _ => 0) (fun _ => 0) (fun _ => 0) (fun _ => 0) (([] : List Wy).length) (fun _ => 0) (fun _ => false) (fun _ => false) (fun _ => 0) (fun _ => 0) ([])) ([])) H locs := hB
  refine W.eq (g2 := F0 m 15 ls [.ref (bb 0)]) rfl ?_
  refine lv_astore_n (lv' := [(2, .ref (bb 0)), (1, .ref (a 0)), (0, .ref b)]) C0.1 C0.2.1 d_law_15 rfl hl (by decide) rfl (fun ls hl => ?_)
  refine lv_iconst (v := nI 0) C0.1 C0.2.1 d_law_16 (by decide) ?_
  refine lv_istore_n (lv' := [(3, .int (nI 0)), (2, .ref (bb 0)), (1, .ref (a 0)), (0, .ref b)]) C0.1 C0.2.1 d_law_17 rfl hl (by decide) rfl (fun ls hl => ?_)
  refine W.widen (k := 42 + 6 * 0) (n := 5969 + 200 * 0) (Nat.le_of_ble_eq_true rfl) (Nat.le_of_ble_eq_true rfl) ?_
  exact law_loop C0 hX hbl (fun q => absurd hbl (Nat.not_lt.mpr q)) hL (fun _ h => h) hret hlk 512 0 (by omega) (by omega) ls (lv_sub hl [3, 2, 1, 0] rfl) _ _ _ _ _ _ _ _ _ _ _ _ _ _ _ _ _ _ _ _ _ _ _ _ _ _ _ _ _ _ _ law_inv0 H locs hB

def apx (L : List Wy) : Option Wy → List Wy
  | none => L
  | some x => L ++ [x]
theorem take_s {l : List Nat} {k p : Nat} (hk : k < l.length) : p ∈ l.take (k + 1) ↔ p ∈ l.take k ∨ p = l.getD k 0 := by
  have e : l.getD k 0 = l[k] := by simp [List.getD, hk]
  rw [List.take_add_one, List.mem_append, List.getElem?_eq_getElem hk, e]
  simp only [Option.toList_some, List.mem_singleton]
theorem gD_mem {l : List Nat} {k : Nat} (hk : k < l.length) : l.getD k 0 ∈ l := by
  simp [List.getD, hk]
theorem sw_p {sP h : Nat → Bool} {l : List Nat} {k : Nat} (hk : k < l.length) (hh : ∀ p, h p = (sP p || decide (p ∈ l.take k))) : ∀ p, va_up h (l.getD k 0) true p = (sP p || decide (p ∈ l.take (k + 1))) := by
  intro p
  by_cases e : p = l.getD k 0
  · rw [decide_eq_true (take_s hk |>.mpr (Or.inr e)), Bool.or_true]
    rw [e, va_up_self]
  · rw [va_up_ne _ _ e, hh p]
    congr 1
    rw [decide_eq_decide, take_s hk]
    exact ⟨fun q => Or.inl q, fun q => q.resolve_right e⟩
theorem sw_t {kd : Nat → Nat} {sT f f1 : Nat → Bool} {l : List Nat} {k : Nat} (hk : k < l.length) (hh : ∀ v, f v = (sT v || decide (v ∈ l.take k ∧ kd v ≠ 0))) (h1 : ∀ x, f1 x = (f x || decide (x = l.getD k 0 ∧ kd (l.getD k 0) ≠ 0))) : ∀ v, f1 v = (sT v || decide (v ∈ l.take (k + 1) ∧ kd v ≠ 0)) := by
  intro v
  rw [h1 v, hh v, Bool.or_assoc, ← Bool.decide_or]
  congr 1
  rw [decide_eq_decide, take_s hk]
  constructor
  · rintro (q | q)
    · exact ⟨Or.inl q.1, q.2⟩
    · exact ⟨Or.inr q.1, by rw [q.1]; exact q.2⟩
  · rintro ⟨q | q, z⟩
    · exact Or.inl ⟨q, z⟩
    · exact Or.inr ⟨q, by rw [← q]; exact z⟩

section SEARCH4
variable {l : Launch} {g : va_G} {t : Nat → ClassId} {a : Nat → Nat} {n : Nat} {kd : Nat → Nat} {em : Nat → Bool} {br : Nat → Bool} {ii : Nat → Int32} {oo : Nat → Int32} {np : Nat} {ea : Nat → Nat} {eb : Nat → Nat} {li : Nat → Nat} {rn : Nat → Bool} {wa : Nat → Option Nat} {wn : Nat} {sT : Nat → Bool} {sP : Nat → Bool} {ak : Nat} {ap : Nat → Nat} {af : Nat → Nat} {tt : Nat → Nat} {ac : Nat → Nat} {ct : Nat → Nat} {rp : Nat → Nat} {rt : Nat → Nat} {rest : va_W} {L : List Wy}
set_option maxHeartbeats 4000000 in
set_option maxRecDepth 100000 in
theorem c_SE_leastWay (u0 e0 : Nat) (hu0 : u0 < 48) (he0 : e0 < 48) (hn : n ≤ 48) (hnp : np ≤ 96) (hk : ∀ j, kd j < 3) (hea : ∀ j, j < np → ea j < n) (heb : ∀ j, j < np → eb j < n) (hli : ∀ j, j < np → 1 ≤ li j ∧ li j ≤ 1000000000) : Mt l y_SE_leastWay w_SE_leastWay ({ frames := 3, cells := 3, slots := 100, locals := 110 }) g classes (tyL t) [.ref (a 3), .int (nI u0), .int (nI e0)] (wW a t n kd em br ii oo np ea eb li rn wa wn sT sP ak ap af tt ac ct rp rt rest L) (S := (Nat × (Nat → Nat) × (Nat → Nat) × (Nat → Nat) × (Nat → Nat) × (Nat → Nat) × (Nat → Nat) × (Nat → Nat)) × Option Wy) (fun v z => v = some (va_rf (z.2.map (fun x => x.2.2.1))) ∧ cLW kd ii oo np ea eb li sT sP u0 e0 (z.2.map (fun x => (x.2.2.2.2.2.1, x.2.2.2.2.2.2.1, x.2.2.2.2.2.2.2))) ∧ ∀ x, z.2 = some x → x.2.2.2.1 = u0 ∧ x.2.2.2.2.1 = e0) (fun z => (wW a t n kd em br ii oo np ea eb li rn wa wn sT sP z.1.1 z.1.2.1 z.1.2.2.1 z.1.2.2.2.1 z.1.2.2.2.2.1 z.1.2.2.2.2.2.1 z.1.2.2.2.2.2.2.1 z.1.2.2.2.2.2.2.2 rest (apx L z.2))) 3 100 := by
  refine Mt.of (cc := b_SE_leastWay) (maxL := 3) (ret := (some (.object "WaySearch$FoundWay"))) (own := R_SE) (by decide) rfl rfl (Nat.le_of_ble_eq_true rfl) ?_
  intro p e s m args below meth c C0 hr hlk hin A hA hB ls hl
  have hl : lv_has ls 3 [(0, .ref (a 3)), (1, .int (nI u0)), (2, .int (nI e0))] := hl
  refine lv_aload_n C0.1 C0.2.1 d_SE_leastWay_0 rfl (lv_at hl 0 rfl) ?_
  refine lv_iload_n C0.1 C0.2.1 d_SE_leastWay_1 rfl (lv_at hl 2 rfl) ?_
  refine cM (As := [.int (nI e0)]) (rest := []) C0 (c_SE_layArcs e0 he0 hn hnp hk hea heb) (q_SE_96 C0.2.2.2.2.1 rfl rfl ⟨Nat.le_of_ble_eq_true rfl, Nat.le_of_ble_eq_true rfl⟩) (ci := 3) (q0 := 3) rfl rfl rfl hB hl.1 rfl rfl (Nat.le_of_ble_eq_true rfl) d_SE_leastWay_2 ⟨Nat.zero_le _, Nat.zero_le _⟩ (fun v_2 u_2 H locs hp_2 hB => ?_)
  obtain ⟨k1, p1, f1, t1, c1⟩ := u_2
  obtain ⟨rfl, g1⟩ := hp_2
  obtain ⟨b1, b2, b3, b4, b5, b6⟩ := Arcs_bd g1 hnp hn hea heb hli
  have hB : wB g classes A s.heap (wW a t n kd em br ii oo np ea eb li rn wa wn sT sP k1 p1 f1 t1 c1 ct rp rt rest L) H locs := hB
  refine W.eq (g2 := F0 m 5 ls []) rfl ?_
  refine lv_aload_n C0.1 C0.2.1 d_SE_leastWay_5 rfl (lv_at hl 0 rfl) ?_
  refine lv_iload_n C0.1 C0.2.1 d_SE_leastWay_6 rfl (lv_at hl 2 rfl) ?_
  refine cM (As := [.int (nI e0)]) (rest := []) C0 (c_SE_reckonCostsTo e0 he0 b1 b2 b3 b4 b5) (q_SE_99 C0.2.2.2.2.1 rfl rfl ⟨Nat.le_of_ble_eq_true rfl, Nat.le_of_ble_eq_true rfl⟩) (ci := 3) (q0 := 3) rfl rfl rfl hB hl.1 rfl rfl (Nat.le_of_ble_eq_true rfl) d_SE_leastWay_7 ⟨Nat.zero_le _, Nat.zero_le _⟩ (fun v_7 d1 H locs hp_7 hB => ?_)
  obtain ⟨rfl, x1, x2, x3⟩ := hp_7
  have hB : wB g classes A s.heap (wW a t n kd em br ii oo np ea eb li rn wa wn sT sP k1 p1 f1 t1 c1 d1 rp rt rest L) H locs := hB
  refine W.eq (g2 := F0 m 10 ls []) rfl ?_
  refine lv_aload_n C0.1 C0.2.1 d_SE_leastWay_10 rfl (lv_at hl 0 rfl) ?_
  refine gf_SE_50 C0 hB.1 3 rfl rfl d_SE_leastWay_11 ?_
  refine lv_iload_n C0.1 C0.2.1 d_SE_leastWay_14 rfl (lv_at hl 1 rfl) ?_
  refine ald_l C0 hB.1 20 2 rfl rfl (by omega) (by decide) d_SE_leastWay_15 ?_
  refine lv_ldc2 C0.1 C0.2.1 C0.2.2.2.1 (C0.2.2.2.2.1 _ k_SE_102) d_SE_leastWay_16 ?_
  refine tl (show (4611686018427387904 : Int64) = lN 4611686018427387904 from rfl) ?_
  refine W.lcmp C0.1 C0.2.1 d_SE_leastWay_19 ?_
  refine lv_if_ne (tgt := 27) C0.1 C0.2.1 d_SE_leastWay_20 (by decide) (fun c_20 => ?_) (fun c_20 => ?_)
  · have hfar : d1 u0 ≠ bf_far := fun z => c_20 ((lg_cmp_eq _ _).mpr (by rw [z]))
    obtain ⟨Wl, hW⟩ := bf_fw_ex x1 b5 (d1 u0 + 1) u0 (by omega) hfar
    have hlen := bf_fw_len x1 x2 b5 b3 hu0 hW
    have hnd : ∀ j, (bf_nodes t1 u0 Wl).getD j 0 < 48 := fun j => bf_walk_lt b3 Wl u0 j hu0 (bf_tw_walk _ _ (bf_fw_tw _ _ hW))
    refine lv_aload_n C0.1 C0.2.1 d_SE_leastWay_27 rfl (lv_at hl 0 rfl) ?_
    refine lv_iload_n C0.1 C0.2.1 d_SE_leastWay_28 rfl (lv_at hl 1 rfl) ?_
    refine lv_iload_n C0.1 C0.2.1 d_SE_leastWay_29 rfl (lv_at hl 2 rfl) ?_
    refine cM (As := [.int (nI u0), .int (nI e0)]) (rest := []) C0 (c_SE_followLeast u0 e0 Wl hu0 he0 hW hlen hnd b1 b2 b3 b4 x1.1 x3) (q_SE_104 C0.2.2.2.2.1 rfl rfl ⟨Nat.le_of_ble_eq_true rfl, Nat.le_of_ble_eq_true rfl⟩) (ci := 3) (q0 := 3) rfl rfl rfl hB hl.1 rfl rfl (Nat.le_of_ble_eq_true rfl) d_SE_leastWay_30 ⟨Nat.le_of_ble_eq_true rfl, Nat.le_of_ble_eq_true rfl⟩ (fun v_30 u_30 H locs hp_30 hB => ?_)
    obtain ⟨q1, q2, q3, r, q⟩ := u_30
    obtain rfl := hp_30
    have hB : wB g classes A s.heap (wW a t n kd em br ii oo np ea eb li rn wa wn sT sP k1 p1 f1 t1 c1 d1 r q rest (L ++ [(q1, q2, q3, u0, e0, d1 u0 / 64, Wl.map p1, bf_nodes t1 u0 Wl)])) H locs := hB
    refine W.eq (g2 := F0 m 33 ls [.ref q3]) rfl ?_
    exact eM_a C0 hr (Or.inl ⟨_, rfl⟩) hlk ((k1, p1, f1, t1, c1, d1, r, q), some (q1, q2, q3, u0, e0, d1 u0 / 64, Wl.map p1, bf_nodes t1 u0 Wl)) (Or.inr ⟨_, rfl⟩) hB ⟨rfl, ⟨k1, p1, f1, t1, c1, d1, g1, x1, x2, Or.inr ⟨hfar, Wl, hW, hlen, rfl⟩⟩, fun x h => by cases h; exact ⟨rfl, rfl⟩⟩ (Nat.le_of_ble_eq_true rfl) (Nat.le_of_ble_eq_true rfl) d_SE_leastWay_33
  · have hfar : d1 u0 = bf_far := (pk_lEQ (Nat.lt_of_le_of_lt (x1.1 u0) (by decide)) (by decide)).mp ((lg_cmp_eq _ _).mp c_20)
    refine lv_null C0.1 C0.2.1 d_SE_leastWay_23 ?_
    refine lv_goto (tgt := 33) C0.1 C0.2.1 d_SE_leastWay_24 (by decide) ?_
    exact eM_a C0 hr (Or.inl ⟨_, rfl⟩) hlk ((k1, p1, f1, t1, c1, d1, rp, rt), none) (Or.inl rfl) hB ⟨rfl, ⟨k1, p1, f1, t1, c1, d1, g1, x1, x2, Or.inl ⟨rfl, hfar⟩⟩, fun x h => by cases h⟩ (Nat.zero_le _) (Nat.zero_le _) d_SE_leastWay_33
set_option maxHeartbeats 4000000 in
set_option maxRecDepth 100000 in
theorem c_SE_shutWay (i pa ta oa fr to0 lit : Nat) (pl tl : List Nat) (hx : L[i]? = some (pa, ta, oa, fr, to0, lit, pl, tl)) (hpl : ∀ p ∈ pl, p < np) (htl : ∀ v ∈ tl, v < n) (hl1 : pl.length < 1000) (hl2 : tl.length < 1000) (hn : n ≤ 48) (hnp : np ≤ 96) (hk : ∀ j, kd j < 3) : Mt l y_SE_shutWay w_SE_shutWay ({ frames := 2, cells := 0, slots := 0, locals := 42 }) g classes (tyL t) [.ref (a 3), .ref oa] (wW a t n kd em br ii oo np ea eb li rn wa wn sT sP ak ap af tt ac ct rp rt rest L) (S := (Nat → Bool) × (Nat → Bool)) (fun v z => v = none ∧ (∀ v, z.1 v = (sT v || decide (v ∈ tl ∧ kd v ≠ 0))) ∧ ∀ p, z.2 p = (sP p || decide (p ∈ pl))) (fun z => (wW a t n kd em br ii oo np ea eb li rn wa wn z.1 z.2 ak ap af tt ac ct rp rt rest L)) 0 0 := by
  refine Mt.of (cc := b_SE_shutWay) (maxL := 6) (ret := none) (own := R_SE) (by decide) rfl rfl (Nat.le_of_ble_eq_true rfl) ?_
  intro p e s m args below meth c C0 hr hlk hin A hA hB ls hl
  have hl : lv_has ls 6 [(0, .ref (a 3)), (1, .ref oa)] := hl
  refine lv_aload_n C0.1 C0.2.1 d_SE_shutWay_0 rfl (lv_at hl 1 rfl) ?_
  refine gf_SE_83 C0 hB.1 (23 + (rest.length + (3 * i + 2))) (wW_w2 hx) rfl d_SE_shutWay_1 ?_
  refine lv_astore_n (lv' := [(2, .ref pa), (0, .ref (a 3)), (1, .ref oa)]) C0.1 C0.2.1 d_SE_shutWay_4 rfl hl (by decide) rfl (fun ls hl => ?_)
  refine lv_aload_n C0.1 C0.2.1 d_SE_shutWay_5 rfl (lv_at hl 0 rfl) ?_
  refine alen (n := pl.length) C0 hB.1 (23 + (rest.length + (3 * i + 0))) 0 (wW_w0 hx) rfl rfl d_SE_shutWay_6 ?_
  refine lv_istore_n (lv' := [(3, .int (nI pl.length)), (2, .ref pa), (0, .ref (a 3)), (1, .ref oa)]) C0.1 C0.2.1 d_SE_shutWay_7 rfl hl (by decide) rfl (fun ls hl => ?_)
  refine lv_iconst (v := nI 0) C0.1 C0.2.1 d_SE_shutWay_8 (by decide) ?_
  refine lv_istore (lv' := [(4, .int (nI 0)), (3, .int (nI pl.length)), (2, .ref pa), (0, .ref (a 3)), (1, .ref oa)]) C0.1 C0.2.1 d_SE_shutWay_9 hl (by decide) rfl (fun ls hl => ?_)
  refine wlM (σ := Nat × (Nat → Bool)) (head := 11) (fun z_ => pl.length - z_.1) (fun z_ => z_.1 ≤ pl.length ∧ ∀ p, z_.2 p = (sP p || decide (p ∈ pl.take z_.1))) (fun z_ => (wW a t n kd em br ii oo np ea eb li rn wa wn sT z_.2 ak ap af tt ac ct rp rt rest L)) (fun z_ => [(0, .ref (a 3)), (1, .ref oa), (2, .ref pa), (3, .int (nI pl.length)), (4, .int (nI z_.1))]) ?_ (0, sP) (show 0 ≤ pl.length ∧ ∀ p, sP p = (sP p || decide (p ∈ pl.take 0)) from ⟨Nat.zero_le _, fun p => by simp⟩) hB (lv_sub hl [3, 4, 2, 1, 0] rfl)
  rintro ⟨k, h⟩ hi ih_11 H locs ls hB hl
  have hi : k ≤ pl.length ∧ ∀ p, h p = (sP p || decide (p ∈ pl.take k)) := hi
  obtain ⟨hi1, hi2⟩ := hi
  have hl : lv_has ls 6 [(0, .ref (a 3)), (1, .ref oa), (2, .ref pa), (3, .int (nI pl.length)), (4, .int (nI k))] := hl
  have hB : wB g classes A s.heap (wW a t n kd em br ii oo np ea eb li rn wa wn sT h ak ap af tt ac ct rp rt rest L) H locs := hB
  refine lv_iload C0.1 C0.2.1 d_SE_shutWay_11 (lv_at hl 4 rfl) ?_
  refine lv_iload_n C0.1 C0.2.1 d_SE_shutWay_13 rfl (lv_at hl 3 rfl) ?_
  refine lv_icmp_ge (tgt := 35) C0.1 C0.2.1 d_SE_shutWay_14 (by decide) (fun c_14 => ?_) (fun c_14 => ?_)
  · have hkl : k = pl.length := by have := (nI_leI (by omega) (by omega)).mp c_14; omega
    have hi3 : ∀ p, h p = (sP p || decide (p ∈ pl)) := fun p => by rw [hi2 p, hkl, List.take_length]
    refine lv_aload_n C0.1 C0.2.1 d_SE_shutWay_35 rfl (lv_at hl 1 rfl) ?_
    refine gf_SE_90 C0 hB.1 (23 + (rest.length + (3 * i + 2))) (wW_w2 hx) rfl d_SE_shutWay_36 ?_
    refine lv_astore_n (lv' := [(2, .ref ta), (0, .ref (a 3)), (1, .ref oa), (3, .int (nI pl.length)), (4, .int (nI k))]) C0.1 C0.2.1 d_SE_shutWay_39 rfl hl (by decide) rfl (fun ls hl => ?_)
    refine lv_aload_n C0.1 C0.2.1 d_SE_shutWay_40 rfl (lv_at hl 0 rfl) ?_
    refine alen (n := tl.length) C0 hB.1 (23 + (rest.length + (3 * i + 1))) 0 (wW_w1 hx) rfl rfl d_SE_shutWay_41 ?_
    refine lv_istore_n (lv' := [(3, .int (nI tl.length)), (2, .ref ta), (0, .ref (a 3)), (1, .ref oa), (4, .int (nI k))]) C0.1 C0.2.1 d_SE_shutWay_42 rfl hl (by decide) rfl (fun ls hl => ?_)
    refine lv_iconst (v := nI 0) C0.1 C0.2.1 d_SE_shutWay_43 (by decide) ?_
    refine lv_istore (lv' := [(4, .int (nI 0)), (3, .int (nI tl.length)), (2, .ref ta), (0, .ref (a 3)), (1, .ref oa)]) C0.1 C0.2.1 d_SE_shutWay_44 hl (by decide) rfl (fun ls hl => ?_)
    refine wlM (σ := Nat × (Nat → Bool)) (head := 46) (fun z_ => tl.length - z_.1) (fun z_ => z_.1 ≤ tl.length ∧ ∀ v, z_.2 v = (sT v || decide (v ∈ tl.take z_.1 ∧ kd v ≠ 0))) (fun z_ => (wW a t n kd em br ii oo np ea eb li rn wa wn z_.2 h ak ap af tt ac ct rp rt rest L)) (fun z_ => [(0, .ref (a 3)), (1, .ref oa), (2, .ref ta), (3, .int (nI tl.length)), (4, .int (nI z_.1))]) ?_ (0, sT) (show 0 ≤ tl.length ∧ ∀ v, sT v = (sT v || decide (v ∈ tl.take 0 ∧ kd v ≠ 0)) from ⟨Nat.zero_le _, fun p => by simp⟩) hB (lv_sub hl [3, 4, 2, 1, 0] rfl)
    rintro ⟨j, f⟩ hi ih_46 H locs ls hB hl
    have hi : j ≤ tl.length ∧ ∀ v, f v = (sT v || decide (v ∈ tl.take j ∧ kd v ≠ 0)) := hi
    obtain ⟨hj0, hj2⟩ := hi
    have hl : lv_has ls 6 [(0, .ref (a 3)), (1, .ref oa), (2, .ref ta), (3, .int (nI tl.length)), (4, .int (nI j))] := hl
    have hB : wB g classes A s.heap (wW a t n kd em br ii oo np ea eb li rn wa wn f h ak ap af tt ac ct rp rt rest L) H locs := hB
    refine lv_iload C0.1 C0.2.1 d_SE_shutWay_46 (lv_at hl 4 rfl) ?_
    refine lv_iload_n C0.1 C0.2.1 d_SE_shutWay_48 rfl (lv_at hl 3 rfl) ?_
    refine lv_icmp_ge (tgt := 70) C0.1 C0.2.1 d_SE_shutWay_49 (by decide) (fun c_49 => ?_) (fun c_49 => ?_)
    · have hjl : j = tl.length := by have := (nI_leI (by omega) (by omega)).mp c_49; omega
      have hj3 : ∀ v, f v = (sT v || decide (v ∈ tl ∧ kd v ≠ 0)) := fun p => by rw [hj2 p, hjl, List.take_length]
      exact eM_v C0 hr hlk (f, h) hB (⟨rfl, hj3, hi3⟩) (Nat.le_refl _) (Nat.le_refl _) d_SE_shutWay_70
    · have hj1 : j < tl.length := (nI_nle' (by omega) (by omega)).mp c_49
      refine lv_aload_n C0.1 C0.2.1 d_SE_shutWay_52 rfl (lv_at hl 2 rfl) ?_
      refine lv_iload C0.1 C0.2.1 d_SE_shutWay_53 (lv_at hl 4 rfl) ?_
      refine ald_i (N := tl.length) C0 hB.1 (23 + (rest.length + (3 * i + 1))) 0 (wW_w1 hx) rfl (by omega) (by omega) d_SE_shutWay_55 ?_
      refine lv_istore (lv' := [(5, .int (nI (tl.getD j 0))), (0, .ref (a 3)), (1, .ref oa), (2, .ref ta), (3, .int (nI tl.length)), (4, .int (nI j))]) C0.1 C0.2.1 d_SE_shutWay_56 hl (by decide) rfl (fun ls hl => ?_)
      refine lv_aload_n C0.1 C0.2.1 d_SE_shutWay_58 rfl (lv_at hl 1 rfl) ?_
      refine lv_iload C0.1 C0.2.1 d_SE_shutWay_59 (lv_at hl 0 rfl) ?_
      refine cM (As := [.int (nI (tl.getD j 0))]) (rest := []) C0 (c_SE_shutUnlessTank (tl.getD j 0) (htl _ (gD_mem hj1)) hn hk) (q_SE_72 C0.2.2.2.2.1 rfl rfl ⟨Nat.le_of_ble_eq_true rfl, Nat.le_of_ble_eq_true rfl⟩) (ci := 3) (q0 := 3) rfl rfl rfl hB hl.1 rfl rfl (Nat.le_of_ble_eq_true rfl) d_SE_shutWay_61 ⟨Nat.zero_le _, Nat.zero_le _⟩ (fun v_61 f1 H locs hp_61 hB => ?_)
      obtain ⟨rfl, hf1⟩ := hp_61
      have hB : wB g classes A s.heap (wW a t n kd em br ii oo np ea eb li rn wa wn f1 h ak ap af tt ac ct rp rt rest L) H locs := hB
      refine W.eq (g2 := F0 m 64 ls []) rfl ?_
      refine lv_iinc (v := nI (j + 1)) (lv' := [(4, .int (nI (j + 1))), (5, .int (nI (tl.getD j 0))), (0, .ref (a 3)), (1, .ref oa), (2, .ref ta), (3, .int (nI tl.length))]) C0.1 C0.2.1 d_SE_shutWay_64 hl (k := 5) rfl (inc1 _) (by decide) rfl (fun ls hl => ?_)
      refine lv_goto (tgt := 46) C0.1 C0.2.1 d_SE_shutWay_67 (by decide) ?_
      exact ih_46 ((j + 1), f1) (show (j + 1) ≤ tl.length ∧ ∀ v, f1 v = (sT v || decide (v ∈ tl.take (j + 1) ∧ kd v ≠ 0)) from ⟨by omega, sw_t hj1 hj2 hf1⟩) (show tl.length - (j + 1) < tl.length - j from by omega) H locs ls hB (lv_sub hl [2, 3, 4, 5, 0] rfl)
  · have hk1 : k < pl.length := (nI_nle' (by omega) (by omega)).mp c_14
    refine lv_aload_n C0.1 C0.2.1 d_SE_shutWay_17 rfl (lv_at hl 2 rfl) ?_
    refine lv_iload C0.1 C0.2.1 d_SE_shutWay_18 (lv_at hl 4 rfl) ?_
    refine ald_i (N := pl.length) C0 hB.1 (23 + (rest.length + (3 * i + 0))) 0 (wW_w0 hx) rfl (by omega) (by omega) d_SE_shutWay_20 ?_
    refine lv_istore (lv' := [(5, .int (nI (pl.getD k 0))), (0, .ref (a 3)), (1, .ref oa), (2, .ref pa), (3, .int (nI pl.length)), (4, .int (nI k))]) C0.1 C0.2.1 d_SE_shutWay_21 hl (by decide) rfl (fun ls hl => ?_)
    refine lv_aload_n C0.1 C0.2.1 d_SE_shutWay_23 rfl (lv_at hl 1 rfl) ?_
    refine lv_iload C0.1 C0.2.1 d_SE_shutWay_24 (lv_at hl 0 rfl) ?_
    refine cM (As := [.int (nI (pl.getD k 0))]) (rest := []) C0 (c_SE_shutPipe (pl.getD k 0) (hpl _ (gD_mem hk1)) hnp) (q_SE_87 C0.2.2.2.2.1 rfl rfl ⟨Nat.le_of_ble_eq_true rfl, Nat.le_of_ble_eq_true rfl⟩) (ci := 3) (q0 := 3) rfl rfl rfl hB hl.1 rfl rfl (Nat.le_of_ble_eq_true rfl) d_SE_shutWay_26 ⟨Nat.zero_le _, Nat.zero_le _⟩ (fun v_26 u_26 H locs hp_26 hB => ?_)
    obtain rfl := hp_26
    have hB : wB g classes A s.heap (wW a t n kd em br ii oo np ea eb li rn wa wn sT (va_up h (pl.getD k 0) true) ak ap af tt ac ct rp rt rest L) H locs := hB
    refine W.eq (g2 := F0 m 29 ls []) rfl ?_
    refine lv_iinc (v := nI (k + 1)) (lv' := [(4, .int (nI (k + 1))), (5, .int (nI (pl.getD k 0))), (0, .ref (a 3)), (1, .ref oa), (2, .ref pa), (3, .int (nI pl.length))]) C0.1 C0.2.1 d_SE_shutWay_29 hl (k := 5) rfl (inc1 _) (by decide) rfl (fun ls hl => ?_)
    refine lv_goto (tgt := 11) C0.1 C0.2.1 d_SE_shutWay_32 (by decide) ?_
    exact ih_11 ((k + 1), (va_up h (pl.getD k 0) true)) (show (k + 1) ≤ pl.length ∧ ∀ p, (va_up h (pl.getD k 0) true) p = (sP p || decide (p ∈ pl.take (k + 1))) from ⟨by omega, sw_p hk1 hi2⟩) (show pl.length - (k + 1) < pl.length - k from by omega) H locs ls hB (lv_sub hl [2, 3, 4, 5, 0] rfl)
end SEARCH4

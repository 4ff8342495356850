theorem fw_mem {k t : Nat} {af tt ac c : Nat → Nat} : ∀ (w : List Nat) (v : Nat), bf_fw k af tt ac c t v w → ∀ j ∈ w, j < k
  | [], _, _, j, hj => by cases hj
  | x :: r, v, h, j, hj => by
    rcases List.mem_cons.mp hj with e | e
    · rw [e]; exact h.2.1
    · exact fw_mem r (tt x) h.2.2.2.2 j e
/-- a found way's pipes and things are there -/
theorem cLW_ok {n : Nat} {kd : Nat → Nat} {ii oo : Nat → Int32} {np : Nat} {ea eb li : Nat → Nat} {sT sP : Nat → Bool} {u0 e0 lit : Nat} {pl tl : List Nat} (h : cLW kd ii oo np ea eb li sT sP u0 e0 (some (lit, pl, tl))) (hu : u0 < n) (hea : ∀ j, j < np → ea j < n) (heb : ∀ j, j < np → eb j < n) : (∀ p ∈ pl, p < np) ∧ (∀ v ∈ tl, v < n) ∧ pl.length < 48 ∧ tl.length = pl.length + 1 := by
  obtain ⟨k, ap, af, tt, ac, c, h1, h2, h3, h4⟩ := h
  rcases h4 with ⟨h4, -⟩ | ⟨-, W, h5, h6, h7⟩
  · cases h4
  · cases h7
    refine ⟨fun p hp => ?_, fun v hv => ?_, by rw [List.length_map]; exact h6, by rw [List.length_map]; exact bf_nodes_len u0 W⟩
    · obtain ⟨j, hj, e⟩ := List.mem_map.mp hp
      rw [← e]
      exact (h1.2.1 j (fw_mem W u0 h5 j hj)).1
    · rcases List.mem_cons.mp hv with e | e
      · rw [e]; exact hu
      · obtain ⟨j, hj, e⟩ := List.mem_map.mp e
        obtain ⟨a1, -, a2, -⟩ := h1.2.1 j (fw_mem W u0 h5 j hj)
        have b1 := hea _ a1
        have b2 := heb _ a1
        rw [← e]
        rcases a2 with a2 | a2 <;> omega
theorem ot_p {rn f : Nat → Bool} {np P : Nat} (h : ∀ p, p < np → f p = rn p) : ∀ p, p < np → va_up f P true p = (rn p || decide (p = P)) := by
  intro p hp
  by_cases e : p = P
  · rw [decide_eq_true e, Bool.or_true, e, va_up_self]
  · rw [decide_eq_false e, Bool.or_false, va_up_ne _ _ e, h p hp]
def twoR (k : Nat) : Option Wy → Option Wy → Int32
  | some _, some _ => if k + 2 ≤ 64 then nI (k + 1) else -5
  | _, _ => -1
def twoL (L : List Wy) : Option Wy → Option Wy → List Wy
  | some x, some y => if L.length + 2 ≤ 64 then (L ++ [x]) ++ [y] else L
  | _, _ => L
def ref2 (n : Nat) (kd : Nat → Nat) (em : Nat → Bool) (x y z w : Int32) : Int32 := if refC n kd em x y = 0 then refC n kd em z w else refC n kd em x y

section CALLS5
variable {l : Launch} {g : va_G} {t : Nat → ClassId} {a : Nat → Nat} {n : Nat} {kd : Nat → Nat} {em : Nat → Bool} {br : Nat → Bool} {ii : Nat → Int32} {oo : Nat → Int32} {np : Nat} {ea : Nat → Nat} {eb : Nat → Nat} {li : Nat → Nat} {rn : Nat → Bool} {wa : Nat → Option Nat} {wn : Nat} {sT : Nat → Bool} {sP : Nat → Bool} {ak : Nat} {ap : Nat → Nat} {af : Nat → Nat} {tt : Nat → Nat} {ac : Nat → Nat} {ct : Nat → Nat} {rp : Nat → Nat} {rt : Nat → Nat} {rest : va_W} {L : List Wy}
set_option maxHeartbeats 4000000 in
set_option maxRecDepth 100000 in
theorem c_WS_other_no (x : Int32) (hwn : wn ≤ 64) (hno : hasB wn x = false) (k : Int32) : Rd l y_WS_other w_WS_other ({ frames := 4, cells := 0, slots := 0, locals := 132 }) g classes (tyL t) [.ref (a 0), .int x, .int k] (wW a t n kd em br ii oo np ea eb li rn wa wn sT sP ak ap af tt ac ct rp rt rest L) (some (.int (-2))) := by
  refine Rd.of (cc := b_WS_other) (maxL := 5) (ret := (some .int)) (own := R_WS) (by decide) rfl rfl (Nat.le_of_ble_eq_true rfl) ?_
  intro p e s m args below meth c C0 hr hlk hP ls hl
  have hl : lv_has ls 5 [(0, .ref (a 0)), (1, .int x), (2, .int k)] := hl
  refine lv_aload_n C0.1 C0.2.1 d_WS_other_0 rfl (lv_at hl 0 rfl) ?_
  refine lv_iload_n C0.1 C0.2.1 d_WS_other_1 rfl (lv_at hl 1 rfl) ?_
  refine cR (As := [.int x]) (rest := []) C0 (c_WS_wayNumbered_no x hwn hno) (q_WS_80 C0.2.2.2.2.1 rfl rfl ⟨Nat.le_of_ble_eq_true rfl, Nat.le_of_ble_eq_true rfl⟩) (ci := 0) (q0 := 0) rfl rfl rfl hP hl.1 rfl rfl (Nat.le_of_ble_eq_true rfl) d_WS_other_2 ⟨Nat.zero_le _, Nat.zero_le _⟩ ?_
  refine W.eq (g2 := F0 m 5 ls [.null]) rfl ?_
  refine lv_astore_nN (lv' := [(3, .null), (0, .ref (a 0)), (1, .int x), (2, .int k)]) C0.1 C0.2.1 d_WS_other_5 rfl hl (by decide) rfl (fun ls hl => ?_)
  refine lv_aload_nN C0.1 C0.2.1 d_WS_other_6 rfl (lv_at hl 0 rfl) ?_
  refine lv_ifnonnullN C0.1 C0.2.1 d_WS_other_7 ?_
  refine lv_bipush (v := -2) C0.1 C0.2.1 d_WS_other_10 (by decide) ?_
  exact eR_i C0 hr hlk (rfl) d_WS_other_12
set_option maxHeartbeats 4000000 in
set_option maxRecDepth 100000 in
theorem c_WS_other_out (i pa ta oa fr to0 lit : Nat) (pl tl : List Nat) (hwn : wn ≤ 64) (hi : i < wn) (hoa : wa i = some oa) (hx : L[i]? = some (pa, ta, oa, fr, to0, lit, pl, tl)) (hl1 : pl.length < 1000) (hl2 : tl.length < 1000) (k : Int32) (hk0 : hasB pl.length k = false) : Rd l y_WS_other w_WS_other ({ frames := 4, cells := 0, slots := 0, locals := 132 }) g classes (tyL t) [.ref (a 0), .int (nI i), .int k] (wW a t n kd em br ii oo np ea eb li rn wa wn sT sP ak ap af tt ac ct rp rt rest L) (some (.int (-1))) := by
  refine Rd.of (cc := b_WS_other) (maxL := 5) (ret := (some .int)) (own := R_WS) (by decide) rfl rfl (Nat.le_of_ble_eq_true rfl) ?_
  intro p e s m args below meth c C0 hr hlk hP ls hl
  have hl : lv_has ls 5 [(0, .ref (a 0)), (1, .int (nI i)), (2, .int k)] := hl
  refine lv_aload_n C0.1 C0.2.1 d_WS_other_0 rfl (lv_at hl 0 rfl) ?_
  refine lv_iload_n C0.1 C0.2.1 d_WS_other_1 rfl (lv_at hl 1 rfl) ?_
  refine cR (As := [.int (nI i)]) (rest := []) C0 (c_WS_wayNumbered i oa hwn hi hoa) (q_WS_80 C0.2.2.2.2.1 rfl rfl ⟨Nat.le_of_ble_eq_true rfl, Nat.le_of_ble_eq_true rfl⟩) (ci := 0) (q0 := 0) rfl rfl rfl hP hl.1 rfl rfl (Nat.le_of_ble_eq_true rfl) d_WS_other_2 ⟨Nat.zero_le _, Nat.zero_le _⟩ ?_
  refine W.eq (g2 := F0 m 5 ls [.ref oa]) rfl ?_
  refine lv_astore_n (lv' := [(3, .ref oa), (0, .ref (a 0)), (1, .int (nI i)), (2, .int k)]) C0.1 C0.2.1 d_WS_other_5 rfl hl (by decide) rfl (fun ls hl => ?_)
  refine lv_aload_n C0.1 C0.2.1 d_WS_other_6 rfl (lv_at hl 0 rfl) ?_
  refine lv_ifnonnull (tgt := 13) C0.1 C0.2.1 d_WS_other_7 (by decide) ?_
  refine lv_aload_n C0.1 C0.2.1 d_WS_other_13 rfl (lv_at hl 0 rfl) ?_
  refine lv_iload_n C0.1 C0.2.1 d_WS_other_14 rfl (lv_at hl 3 rfl) ?_
  refine cR (As := [.int k]) (rest := []) C0 (c_FW_pipeAt (23 + (rest.length + (3 * i + 2))) (23 + (rest.length + (3 * i + 0))) oa pa ta pl.length (fun j => nI (pl.getD j 0)) (nI fr) (nI to0) (lN lit) k (wW_w2 hx) (wW_w0 hx) (by omega)) (q_WS_84 C0.2.2.2.2.1 rfl rfl ⟨Nat.le_of_ble_eq_true rfl, Nat.le_of_ble_eq_true rfl⟩) (ci := 4) (q0 := 23 + (rest.length + (3 * i + 2))) rfl rfl (wW_w2 hx) hP hl.1 rfl rfl (Nat.le_of_ble_eq_true rfl) d_WS_other_15 ⟨Nat.zero_le _, Nat.zero_le _⟩ ?_
  refine W.eq (g2 := F0 m 18 ls [.int (pAt pl.length (fun j => nI (pl.getD j 0)) k)]) rfl ?_
  rw [pAt_n hk0]
  refine lv_istore (lv' := [(4, .int (-1)), (3, .ref oa), (0, .ref (a 0)), (1, .int (nI i)), (2, .int k)]) C0.1 C0.2.1 d_WS_other_18 hl (by decide) rfl (fun ls hl => ?_)
  refine lv_iload C0.1 C0.2.1 d_WS_other_20 (lv_at hl 0 rfl) ?_
  refine lv_iconst (v := -1) C0.1 C0.2.1 d_WS_other_22 (by decide) ?_
  refine lv_icmp_ne (tgt := 28) C0.1 C0.2.1 d_WS_other_23 (by decide) (fun c_23 => ?_) (fun c_23 => ?_)
  · exact absurd rfl c_23
  · refine lv_iconst (v := -1) C0.1 C0.2.1 d_WS_other_26 (by decide) ?_
    exact eR_i C0 hr hlk (rfl) d_WS_other_27
set_option maxHeartbeats 4000000 in
set_option maxRecDepth 100000 in
theorem c_WS_other (i pa ta oa fr to0 lit : Nat) (pl tl : List Nat) (hi : i < L.length) (hx : L[i]? = some (pa, ta, oa, fr, to0, lit, pl, tl)) (hl1 : pl.length < 1000) (k0 : Nat) (hk1 : k0 < pl.length) (hpl : ∀ p ∈ pl, p < np) (hfr : fr < n) (hto : to0 < n) (hL : L.length ≤ 64) (hn : n ≤ 48) (hnp : np ≤ 96) (hk : ∀ j, kd j < 3) (hea : ∀ j, j < np → ea j < n) (heb : ∀ j, j < np → eb j < n) (hli : ∀ j, j < np → 1 ≤ li j ∧ li j ≤ 1000000000) : Mt l y_WS_other w_WS_other ({ frames := 4, cells := 3, slots := 100, locals := 132 }) g classes (tyL t) [.ref (a 0), .int (nI i), .int (nI k0)] (wW a t n kd em br ii oo np ea eb li rn (waL L) L.length sT sP ak ap af tt ac ct rp rt rest L) (S := ((Nat → Bool) × (Nat → Bool)) × (Nat × (Nat → Nat) × (Nat → Nat) × (Nat → Nat) × (Nat → Nat) × (Nat → Nat) × (Nat → Nat) × (Nat → Nat)) × Option Wy) (fun v z => v = some (.int (wayR L.length z.2.2)) ∧ (∀ x, x < n → z.1.1 x = shT kd br rn ea eb np x) ∧ (∀ p, p < np → z.1.2 p = (rn p || decide (p = (pl.getD k0 0)))) ∧ cLW kd ii oo np ea eb li z.1.1 z.1.2 fr to0 (z.2.2.map (fun x => (x.2.2.2.2.2.1, x.2.2.2.2.2.2.1, x.2.2.2.2.2.2.2))) ∧ ∀ x, z.2.2 = some x → x.2.2.2.1 = fr ∧ x.2.2.2.2.1 = to0) (fun z => (wW a t n kd em br ii oo np ea eb li rn (waL (if L.length < 64 then apx L z.2.2 else L)) ((if L.length < 64 then apx L z.2.2 else L).length) z.1.1 z.1.2 z.2.1.1 z.2.1.2.1 z.2.1.2.2.1 z.2.1.2.2.2.1 z.2.1.2.2.2.2.1 z.2.1.2.2.2.2.2.1 z.2.1.2.2.2.2.2.2.1 z.2.1.2.2.2.2.2.2.2 rest (if L.length < 64 then apx L z.2.2 else L))) 3 100 := by
  refine Mt.of (cc := b_WS_other) (maxL := 5) (ret := (some .int)) (own := R_WS) (by decide) rfl rfl (Nat.le_of_ble_eq_true rfl) ?_
  intro p e s m args below meth c C0 hr hlk hin A hA hB ls hl
  have hl : lv_has ls 5 [(0, .ref (a 0)), (1, .int (nI i)), (2, .int (nI k0))] := hl
  refine lv_aload_n C0.1 C0.2.1 d_WS_other_0 rfl (lv_at hl 0 rfl) ?_
  refine lv_iload_n C0.1 C0.2.1 d_WS_other_1 rfl (lv_at hl 1 rfl) ?_
  refine cR (As := [.int (nI i)]) (rest := []) C0 (c_WS_wayNumbered i oa hL hi (waL_at hx)) (q_WS_80 C0.2.2.2.2.1 rfl rfl ⟨Nat.le_of_ble_eq_true rfl, Nat.le_of_ble_eq_true rfl⟩) (ci := 0) (q0 := 0) rfl rfl rfl hB.1 hl.1 rfl rfl (Nat.le_of_ble_eq_true rfl) d_WS_other_2 ⟨Nat.zero_le _, Nat.zero_le _⟩ ?_
  refine W.eq (g2 := F0 m 5 ls [.ref oa]) rfl ?_
  refine lv_astore_n (lv' := [(3, .ref oa), (0, .ref (a 0)), (1, .int (nI i)), (2, .int (nI k0))]) C0.1 C0.2.1 d_WS_other_5 rfl hl (by decide) rfl (fun ls hl => ?_)
  refine lv_aload_n C0.1 C0.2.1 d_WS_other_6 rfl (lv_at hl 0 rfl) ?_
  refine lv_ifnonnull (tgt := 13) C0.1 C0.2.1 d_WS_other_7 (by decide) ?_
  refine lv_aload_n C0.1 C0.2.1 d_WS_other_13 rfl (lv_at hl 0 rfl) ?_
  refine lv_iload_n C0.1 C0.2.1 d_WS_other_14 rfl (lv_at hl 3 rfl) ?_
  refine cR (As := [.int (nI k0)]) (rest := []) C0 (c_FW_pipeAt (23 + (rest.length + (3 * i + 2))) (23 + (rest.length + (3 * i + 0))) oa pa ta pl.length (fun j => nI (pl.getD j 0)) (nI fr) (nI to0) (lN lit) (nI k0) (wW_w2 hx) (wW_w0 hx) (by omega)) (q_WS_84 C0.2.2.2.2.1 rfl rfl ⟨Nat.le_of_ble_eq_true rfl, Nat.le_of_ble_eq_true rfl⟩) (ci := 4) (q0 := 23 + (rest.length + (3 * i + 2))) rfl rfl (wW_w2 hx) hB.1 hl.1 rfl rfl (Nat.le_of_ble_eq_true rfl) d_WS_other_15 ⟨Nat.zero_le _, Nat.zero_le _⟩ ?_
  refine W.eq (g2 := F0 m 18 ls [.int (pAt pl.length (fun j => nI (pl.getD j 0)) (nI k0))]) rfl ?_
  rw [pAt_j hk1 (by omega)]
  refine lv_istore (lv' := [(4, .int (nI (pl.getD k0 0))), (3, .ref oa), (0, .ref (a 0)), (1, .int (nI i)), (2, .int (nI k0))]) C0.1 C0.2.1 d_WS_other_18 hl (by decide) rfl (fun ls hl => ?_)
  refine lv_iload C0.1 C0.2.1 d_WS_other_20 (lv_at hl 0 rfl) ?_
  refine lv_iconst (v := -1) C0.1 C0.2.1 d_WS_other_22 (by decide) ?_
  refine lv_icmp_ne (tgt := 28) C0.1 C0.2.1 d_WS_other_23 (by decide) (fun c_23 => ?_) (fun c_23 => ?_)
  · refine lv_aload_n C0.1 C0.2.1 d_WS_other_28 rfl (lv_at hl 2 rfl) ?_
    refine gf_WS_10 C0 hB.1 0 rfl rfl d_WS_other_29 ?_
    refine cM (As := []) (rest := []) C0 (c_SE_openAll hn hnp hk hea heb) (q_WS_69 C0.2.2.2.2.1 rfl rfl ⟨Nat.le_of_ble_eq_true rfl, Nat.le_of_ble_eq_true rfl⟩) (ci := 3) (q0 := 3) rfl rfl rfl hB hl.1 rfl rfl (Nat.le_of_ble_eq_true rfl) d_WS_other_32 ⟨Nat.zero_le _, Nat.zero_le _⟩ (fun v_32 u_32 H locs hp_32 hB => ?_)
    obtain ⟨s1, s2⟩ := u_32
    obtain ⟨rfl, hs1, hs2⟩ := hp_32
    have hB : wB g classes A s.heap (wW a t n kd em br ii oo np ea eb li rn (waL L) L.length s1 s2 ak ap af tt ac ct rp rt rest L) H locs := hB
    refine W.eq (g2 := F0 m 35 ls []) rfl ?_
    refine lv_aload_n C0.1 C0.2.1 d_WS_other_35 rfl (lv_at hl 2 rfl) ?_
    refine gf_WS_10 C0 hB.1 0 rfl rfl d_WS_other_36 ?_
    refine lv_iload C0.1 C0.2.1 d_WS_other_39 (lv_at hl 0 rfl) ?_
    refine cM (As := [.int (nI (pl.getD k0 0))]) (rest := []) C0 (c_SE_shutPipe (pl.getD k0 0) (hpl _ (gD_mem hk1)) hnp) (q_WS_101 C0.2.2.2.2.1 rfl rfl ⟨Nat.le_of_ble_eq_true rfl, Nat.le_of_ble_eq_true rfl⟩) (ci := 3) (q0 := 3) rfl rfl rfl hB hl.1 rfl rfl (Nat.le_of_ble_eq_true rfl) d_WS_other_41 ⟨Nat.zero_le _, Nat.zero_le _⟩ (fun v_41 u_41 H locs hp_41 hB => ?_)
    obtain rfl := hp_41
    have hB : wB g classes A s.heap (wW a t n kd em br ii oo np ea eb li rn (waL L) L.length s1 (va_up s2 (pl.getD k0 0) true) ak ap af tt ac ct rp rt rest L) H locs := hB
    refine W.eq (g2 := F0 m 44 ls []) rfl ?_
    refine lv_aload_n C0.1 C0.2.1 d_WS_other_44 rfl (lv_at hl 2 rfl) ?_
    refine lv_aload_n C0.1 C0.2.1 d_WS_other_45 rfl (lv_at hl 2 rfl) ?_
    refine gf_WS_10 C0 hB.1 0 rfl rfl d_WS_other_46 ?_
    refine lv_aload_n C0.1 C0.2.1 d_WS_other_49 rfl (lv_at hl 1 rfl) ?_
    refine gf_WS_105 C0 hB.1 (23 + (rest.length + (3 * i + 2))) (wW_w2 hx) rfl d_WS_other_50 ?_
    refine lv_aload_n C0.1 C0.2.1 d_WS_other_53 rfl (lv_at hl 1 rfl) ?_
    refine gf_WS_108 C0 hB.1 (23 + (rest.length + (3 * i + 2))) (wW_w2 hx) rfl d_WS_other_54 ?_
    refine cM (As := [.int (nI fr), .int (nI to0)]) (rest := [.ref (a 0)]) C0 (c_SE_leastWay fr to0 (by omega) (by omega) hn hnp hk hea heb hli) (q_WS_72 C0.2.2.2.2.1 rfl rfl ⟨Nat.le_of_ble_eq_true rfl, Nat.le_of_ble_eq_true rfl⟩) (ci := 3) (q0 := 3) rfl rfl rfl hB hl.1 rfl rfl (Nat.le_of_ble_eq_true rfl) d_WS_other_57 ⟨Nat.le_of_ble_eq_true rfl, Nat.le_of_ble_eq_true rfl⟩ (fun v_57 u_57 H locs hp_57 hB => ?_)
    obtain ⟨⟨k1, p1, f1, t1, c1, d1, r1, q1⟩, ox⟩ := u_57
    obtain ⟨rfl, hw1, hw2⟩ := hp_57
    have hB : wB g classes A s.heap (wW a t n kd em br ii oo np ea eb li rn (waL L) L.length s1 (va_up s2 (pl.getD k0 0) true) k1 p1 f1 t1 c1 d1 r1 q1 rest (apx L ox)) H locs := hB
    refine W.eq (g2 := F0 m 60 ls [va_rf (Option.map (fun x => x.2.2.1) ox), .ref (a 0)]) rfl ?_
    cases ox with
    | none =>
      have hB : wB g classes A s.heap (wW a t n kd em br ii oo np ea eb li rn (waL L) L.length s1 (va_up s2 (pl.getD k0 0) true) k1 p1 f1 t1 c1 d1 r1 q1 rest L) H locs := hB
      refine W.eq (g2 := F0 m 60 ls [.null, .ref (a 0)]) rfl ?_
      refine cR (As := [.null]) (rest := []) C0 (c_WS_keep_null) (q_WS_76 C0.2.2.2.2.1 rfl rfl ⟨Nat.le_of_ble_eq_true rfl, Nat.le_of_ble_eq_true rfl⟩) (ci := 0) (q0 := 0) rfl rfl rfl hB.1 hl.1 rfl rfl (Nat.le_of_ble_eq_true rfl) d_WS_other_60 ⟨Nat.le_of_ble_eq_true rfl, Nat.le_of_ble_eq_true rfl⟩ ?_
      refine W.eq (g2 := F0 m 63 ls [.int (-1)]) rfl ?_
      exact eM_i C0 hr hlk ((s1, (va_up s2 (pl.getD k0 0) true)), (k1, p1, f1, t1, c1, d1, r1, q1), none) (show wB g classes A s.heap (wW a t n kd em br ii oo np ea eb li rn (waL (if L.length < 64 then apx L none else L)) ((if L.length < 64 then apx L none else L).length) s1 (va_up s2 (pl.getD k0 0) true) k1 p1 f1 t1 c1 d1 r1 q1 rest (if L.length < 64 then apx L none else L)) H locs by rw [show ((if L.length < 64 then apx L none else L) : List Wy) = L by simp [apx]]; exact hB) ⟨rfl, hs1, ot_p hs2, hw1, hw2⟩ (Nat.le_of_ble_eq_true rfl) (Nat.le_of_ble_eq_true rfl) d_WS_other_63
    | some x =>
      obtain ⟨pa_, ta_, oa_, fr_, to0_, lit_, pl_, tl_⟩ := x
      have hB : wB g classes A s.heap (wW a t n kd em br ii oo np ea eb li rn (waL L) L.length s1 (va_up s2 (pl.getD k0 0) true) k1 p1 f1 t1 c1 d1 r1 q1 rest (L ++ [(pa_, ta_, oa_, fr_, to0_, lit_, pl_, tl_)])) H locs := hB
      refine W.eq (g2 := F0 m 60 ls [.ref oa_, .ref (a 0)]) rfl ?_
      by_cases h64 : L.length < 64
      · refine cM (As := [.ref oa_]) (rest := []) C0 (c_WS_keep L.length pa_ ta_ oa_ fr_ to0_ lit_ pl_ tl_ (by simp) h64) (q_WS_76 C0.2.2.2.2.1 rfl rfl ⟨Nat.le_of_ble_eq_true rfl, Nat.le_of_ble_eq_true rfl⟩) (ci := 0) (q0 := 0) rfl rfl rfl hB hl.1 rfl rfl (Nat.le_of_ble_eq_true rfl) d_WS_other_60 ⟨Nat.le_of_ble_eq_true rfl, Nat.le_of_ble_eq_true rfl⟩ (fun v_60 u_60 H locs hp_60 hB => ?_)
        obtain rfl := hp_60
        have hB : wB g classes A s.heap (wW a t n kd em br ii oo np ea eb li rn (va_up (waL L) L.length (some oa_)) (L.length + 1) s1 (va_up s2 (pl.getD k0 0) true) k1 p1 f1 t1 c1 d1 r1 q1 rest (L ++ [(pa_, ta_, oa_, fr_, to0_, lit_, pl_, tl_)])) H locs := hB
        refine W.eq (g2 := F0 m 63 ls [.int (nI L.length)]) rfl ?_
        exact eM_i C0 hr hlk ((s1, (va_up s2 (pl.getD k0 0) true)), (k1, p1, f1, t1, c1, d1, r1, q1), some (pa_, ta_, oa_, fr_, to0_, lit_, pl_, tl_)) (show wB g classes A s.heap (wW a t n kd em br ii oo np ea eb li rn (waL (if L.length < 64 then apx L (some (pa_, ta_, oa_, fr_, to0_, lit_, pl_, tl_)) else L)) ((if L.length < 64 then apx L (some (pa_, ta_, oa_, fr_, to0_, lit_, pl_, tl_)) else L).length) s1 (va_up s2 (pl.getD k0 0) true) k1 p1 f1 t1 c1 d1 r1 q1 rest (if L.length < 64 then apx L (some (pa_, ta_, oa_, fr_, to0_, lit_, pl_, tl_)) else L)) H locs by rw [show ((if L.length < 64 then apx L (some (pa_, ta_, oa_, fr_, to0_, lit_, pl_, tl_)) else L) : List Wy) = L ++ [(pa_, ta_, oa_, fr_, to0_, lit_, pl_, tl_)] by rw [if_pos h64]; rfl, List.length_append]; rw [← waL_push (x := (pa_, ta_, oa_, fr_, to0_, lit_, pl_, tl_))]; exact hB) ⟨by rw [show wayR L.length (some (pa_, ta_, oa_, fr_, to0_, lit_, pl_, tl_)) = nI L.length from if_pos h64], hs1, ot_p hs2, hw1, hw2⟩ (Nat.le_of_ble_eq_true rfl) (Nat.le_of_ble_eq_true rfl) d_WS_other_63
      · refine cR (As := [.ref oa_]) (rest := []) C0 (c_WS_keep_full oa_ (by omega)) (q_WS_76 C0.2.2.2.2.1 rfl rfl ⟨Nat.le_of_ble_eq_true rfl, Nat.le_of_ble_eq_true rfl⟩) (ci := 0) (q0 := 0) rfl rfl rfl hB.1 hl.1 rfl rfl (Nat.le_of_ble_eq_true rfl) d_WS_other_60 ⟨Nat.le_of_ble_eq_true rfl, Nat.le_of_ble_eq_true rfl⟩ ?_
        refine W.eq (g2 := F0 m 63 ls [.int (-5)]) rfl ?_
        exact eM_i C0 hr hlk ((s1, (va_up s2 (pl.getD k0 0) true)), (k1, p1, f1, t1, c1, d1, r1, q1), some (pa_, ta_, oa_, fr_, to0_, lit_, pl_, tl_)) (show wB g classes A s.heap (wW a t n kd em br ii oo np ea eb li rn (waL (if L.length < 64 then apx L (some (pa_, ta_, oa_, fr_, to0_, lit_, pl_, tl_)) else L)) ((if L.length < 64 then apx L (some (pa_, ta_, oa_, fr_, to0_, lit_, pl_, tl_)) else L).length) s1 (va_up s2 (pl.getD k0 0) true) k1 p1 f1 t1 c1 d1 r1 q1 rest (if L.length < 64 then apx L (some (pa_, ta_, oa_, fr_, to0_, lit_, pl_, tl_)) else L)) H locs by rw [show ((if L.length < 64 then apx L (some (pa_, ta_, oa_, fr_, to0_, lit_, pl_, tl_)) else L) : List Wy) = L from if_neg h64]; exact hB.pop) ⟨by rw [show wayR L.length (some (pa_, ta_, oa_, fr_, to0_, lit_, pl_, tl_)) = -5 from if_neg h64], hs1, ot_p hs2, hw1, hw2⟩ (Nat.le_of_ble_eq_true rfl) (Nat.le_of_ble_eq_true rfl) d_WS_other_63
  · exact absurd c_23 (nI_m1 (by have := hpl _ (gD_mem hk1); omega))
set_option maxHeartbeats 4000000 in
set_option maxRecDepth 100000 in
theorem c_WS_two_no (x y z w0 : Int32) (hn : n ≤ 48) (hk : ∀ j, kd j < 3) (hno : ¬ ref2 n kd em x y z w0 = 0) : Rd l y_WS_two w_WS_two ({ frames := 4, cells := 0, slots := 0, locals := 132 }) g classes (tyL t) [.ref (a 0), .int x, .int y, .int z, .int w0] (wW a t n kd em br ii oo np ea eb li rn wa wn sT sP ak ap af tt ac ct rp rt rest L) (some (.int (ref2 n kd em x y z w0))) := by
  refine Rd.of (cc := b_WS_two) (maxL := 8) (ret := (some .int)) (own := R_WS) (by decide) rfl rfl (Nat.le_of_ble_eq_true rfl) ?_
  intro p e s m args below meth c C0 hr hlk hP ls hl
  have hl : lv_has ls 8 [(0, .ref (a 0)), (1, .int x), (2, .int y), (3, .int z), (4, .int w0)] := hl
  refine lv_aload_n C0.1 C0.2.1 d_WS_two_0 rfl (lv_at hl 0 rfl) ?_
  refine lv_iload_n C0.1 C0.2.1 d_WS_two_1 rfl (lv_at hl 1 rfl) ?_
  refine lv_iload_n C0.1 C0.2.1 d_WS_two_2 rfl (lv_at hl 2 rfl) ?_
  refine cR (As := [.int x, .int y]) (rest := []) C0 (c_WS_refusalOfEnds x y hn hk) (q_WS_65 C0.2.2.2.2.1 rfl rfl ⟨Nat.le_of_ble_eq_true rfl, Nat.le_of_ble_eq_true rfl⟩) (ci := 0) (q0 := 0) rfl rfl rfl hP hl.1 rfl rfl (Nat.le_of_ble_eq_true rfl) d_WS_two_3 ⟨Nat.zero_le _, Nat.zero_le _⟩ ?_
  refine W.eq (g2 := F0 m 6 ls [.int (refC n kd em x y)]) rfl ?_
  refine lv_istore (lv' := [(5, .int (refC n kd em x y)), (0, .ref (a 0)), (1, .int x), (2, .int y), (3, .int z), (4, .int w0)]) C0.1 C0.2.1 d_WS_two_6 hl (by decide) rfl (fun ls hl => ?_)
  refine lv_iload C0.1 C0.2.1 d_WS_two_8 (lv_at hl 0 rfl) ?_
  refine lv_if_ne (tgt := 22) C0.1 C0.2.1 d_WS_two_10 (by decide) (fun c_10 => ?_) (fun c_10 => ?_)
  · refine lv_iload C0.1 C0.2.1 d_WS_two_22 (lv_at hl 0 rfl) ?_
    refine lv_if_eq (tgt := 30) C0.1 C0.2.1 d_WS_two_24 (by decide) (fun c_24 => ?_) (fun c_24 => ?_)
    · exact absurd (by unfold ref2; first | (rw [if_pos c_10]; exact c_24) | exact absurd c_24 c_10) hno
    · refine lv_iload C0.1 C0.2.1 d_WS_two_27 (lv_at hl 0 rfl) ?_
      exact eR_i C0 hr hlk (by unfold ref2; first | rw [if_pos c_10] | rw [if_neg c_10]) d_WS_two_29
  · refine lv_aload_n C0.1 C0.2.1 d_WS_two_13 rfl (lv_at hl 1 rfl) ?_
    refine lv_iload_n C0.1 C0.2.1 d_WS_two_14 rfl (lv_at hl 4 rfl) ?_
    refine lv_iload C0.1 C0.2.1 d_WS_two_15 (lv_at hl 5 rfl) ?_
    refine cR (As := [.int z, .int w0]) (rest := []) C0 (c_WS_refusalOfEnds z w0 hn hk) (q_WS_65 C0.2.2.2.2.1 rfl rfl ⟨Nat.le_of_ble_eq_true rfl, Nat.le_of_ble_eq_true rfl⟩) (ci := 0) (q0 := 0) rfl rfl rfl hP hl.1 rfl rfl (Nat.le_of_ble_eq_true rfl) d_WS_two_17 ⟨Nat.zero_le _, Nat.zero_le _⟩ ?_
    refine W.eq (g2 := F0 m 20 ls [.int (refC n kd em z w0)]) rfl ?_
    refine lv_istore (lv' := [(5, .int (refC n kd em z w0)), (0, .ref (a 0)), (1, .int x), (2, .int y), (3, .int z), (4, .int w0)]) C0.1 C0.2.1 d_WS_two_20 hl (by decide) rfl (fun ls hl => ?_)
    refine lv_iload C0.1 C0.2.1 d_WS_two_22 (lv_at hl 0 rfl) ?_
    refine lv_if_eq (tgt := 30) C0.1 C0.2.1 d_WS_two_24 (by decide) (fun c_24 => ?_) (fun c_24 => ?_)
    · exact absurd (by unfold ref2; first | (rw [if_pos c_10]; exact c_24) | exact absurd c_24 c_10) hno
    · refine lv_iload C0.1 C0.2.1 d_WS_two_27 (lv_at hl 0 rfl) ?_
      exact eR_i C0 hr hlk (by unfold ref2; first | rw [if_pos c_10] | rw [if_neg c_10]) d_WS_two_29
set_option maxHeartbeats 4000000 in
set_option maxRecDepth 100000 in
theorem c_WS_two (u0 e0 u1 e1 : Nat) (hu0 : u0 < n) (he0 : e0 < n) (hu1 : u1 < n) (he1 : e1 < n) (hok : refC n kd em (nI u0) (nI e0) = 0) (hok2 : refC n kd em (nI u1) (nI e1) = 0) (hL : L.length ≤ 64) (hn : n ≤ 48) (hnp : np ≤ 96) (hk : ∀ j, kd j < 3) (hea : ∀ j, j < np → ea j < n) (heb : ∀ j, j < np → eb j < n) (hli : ∀ j, j < np → 1 ≤ li j ∧ li j ≤ 1000000000) : Mt l y_WS_two w_WS_two ({ frames := 4, cells := 6, slots := 200, locals := 132 }) g classes (tyL t) [.ref (a 0), .int (nI u0), .int (nI e0), .int (nI u1), .int (nI e1)] (wW a t n kd em br ii oo np ea eb li rn (waL L) L.length sT sP ak ap af tt ac ct rp rt rest L) (S := ((Nat → Bool) × (Nat → Bool)) × ((Nat → Bool) × (Nat → Bool)) × (Nat × (Nat → Nat) × (Nat → Nat) × (Nat → Nat) × (Nat → Nat) × (Nat → Nat) × (Nat → Nat) × (Nat → Nat)) × Option Wy × Option Wy) (fun v z => v = some (.int (twoR L.length z.2.2.2.1 z.2.2.2.2)) ∧ (∀ x, x < n → z.1.1 x = shT kd br rn ea eb np x) ∧ (∀ p, p < np → z.1.2 p = rn p) ∧ cLW kd ii oo np ea eb li z.1.1 z.1.2 u0 e0 (z.2.2.2.1.map (fun x => (x.2.2.2.2.2.1, x.2.2.2.2.2.2.1, x.2.2.2.2.2.2.2))) ∧ (∀ x, z.2.2.2.1 = some x → x.2.2.2.1 = u0 ∧ x.2.2.2.2.1 = e0) ∧ ∀ x, z.2.2.2.1 = some x → ((∀ v, z.2.1.1 v = (z.1.1 v || decide (v ∈ x.2.2.2.2.2.2.2 ∧ kd v ≠ 0))) ∧ (∀ p, z.2.1.2 p = (z.1.2 p || decide (p ∈ x.2.2.2.2.2.2.1))) ∧ cLW kd ii oo np ea eb li z.2.1.1 z.2.1.2 u1 e1 (z.2.2.2.2.map (fun x => (x.2.2.2.2.2.1, x.2.2.2.2.2.2.1, x.2.2.2.2.2.2.2))) ∧ ∀ y, z.2.2.2.2 = some y → y.2.2.2.1 = u1 ∧ y.2.2.2.2.1 = e1)) (fun z => (wW a t n kd em br ii oo np ea eb li rn (waL (twoL L z.2.2.2.1 z.2.2.2.2)) ((twoL L z.2.2.2.1 z.2.2.2.2).length) z.2.1.1 z.2.1.2 z.2.2.1.1 z.2.2.1.2.1 z.2.2.1.2.2.1 z.2.2.1.2.2.2.1 z.2.2.1.2.2.2.2.1 z.2.2.1.2.2.2.2.2.1 z.2.2.1.2.2.2.2.2.2.1 z.2.2.1.2.2.2.2.2.2.2 rest (twoL L z.2.2.2.1 z.2.2.2.2))) 6 200 := by
  refine Mt.of (cc := b_WS_two) (maxL := 8) (ret := (some .int)) (own := R_WS) (by decide) rfl rfl (Nat.le_of_ble_eq_true rfl) ?_
  intro p e s m args below meth c C0 hr hlk hin A hA hB ls hl
  have hl : lv_has ls 8 [(0, .ref (a 0)), (1, .int (nI u0)), (2, .int (nI e0)), (3, .int (nI u1)), (4, .int (nI e1))] := hl
  refine lv_aload_n C0.1 C0.2.1 d_WS_two_0 rfl (lv_at hl 0 rfl) ?_
  refine lv_iload_n C0.1 C0.2.1 d_WS_two_1 rfl (lv_at hl 1 rfl) ?_
  refine lv_iload_n C0.1 C0.2.1 d_WS_two_2 rfl (lv_at hl 2 rfl) ?_
  refine cR (As := [.int (nI u0), .int (nI e0)]) (rest := []) C0 (c_WS_refusalOfEnds (nI u0) (nI e0) hn hk) (q_WS_65 C0.2.2.2.2.1 rfl rfl ⟨Nat.le_of_ble_eq_true rfl, Nat.le_of_ble_eq_true rfl⟩) (ci := 0) (q0 := 0) rfl rfl rfl hB.1 hl.1 rfl rfl (Nat.le_of_ble_eq_true rfl) d_WS_two_3 ⟨Nat.zero_le _, Nat.zero_le _⟩ ?_
  refine W.eq (g2 := F0 m 6 ls [.int (refC n kd em (nI u0) (nI e0))]) rfl ?_
  refine lv_istore (lv' := [(5, .int (refC n kd em (nI u0) (nI e0))), (0, .ref (a 0)), (1, .int (nI u0)), (2, .int (nI e0)), (3, .int (nI u1)), (4, .int (nI e1))]) C0.1 C0.2.1 d_WS_two_6 hl (by decide) rfl (fun ls hl => ?_)
  refine lv_iload C0.1 C0.2.1 d_WS_two_8 (lv_at hl 0 rfl) ?_
  refine lv_if_ne (tgt := 22) C0.1 C0.2.1 d_WS_two_10 (by decide) (fun c_10 => ?_) (fun c_10 => ?_)
  · exact absurd hok c_10
  · refine lv_aload_n C0.1 C0.2.1 d_WS_two_13 rfl (lv_at hl 1 rfl) ?_
    refine lv_iload_n C0.1 C0.2.1 d_WS_two_14 rfl (lv_at hl 4 rfl) ?_
    refine lv_iload C0.1 C0.2.1 d_WS_two_15 (lv_at hl 5 rfl) ?_
    refine cR (As := [.int (nI u1), .int (nI e1)]) (rest := []) C0 (c_WS_refusalOfEnds (nI u1) (nI e1) hn hk) (q_WS_65 C0.2.2.2.2.1 rfl rfl ⟨Nat.le_of_ble_eq_true rfl, Nat.le_of_ble_eq_true rfl⟩) (ci := 0) (q0 := 0) rfl rfl rfl hB.1 hl.1 rfl rfl (Nat.le_of_ble_eq_true rfl) d_WS_two_17 ⟨Nat.zero_le _, Nat.zero_le _⟩ ?_
    refine W.eq (g2 := F0 m 20 ls [.int (refC n kd em (nI u1) (nI e1))]) rfl ?_
    refine lv_istore (lv' := [(5, .int (refC n kd em (nI u1) (nI e1))), (0, .ref (a 0)), (1, .int (nI u0)), (2, .int (nI e0)), (3, .int (nI u1)), (4, .int (nI e1))]) C0.1 C0.2.1 d_WS_two_20 hl (by decide) rfl (fun ls hl => ?_)
    refine lv_iload C0.1 C0.2.1 d_WS_two_22 (lv_at hl 0 rfl) ?_
    refine lv_if_eq (tgt := 30) C0.1 C0.2.1 d_WS_two_24 (by decide) (fun c_24 => ?_) (fun c_24 => ?_)
    · refine lv_aload_n C0.1 C0.2.1 d_WS_two_30 rfl (lv_at hl 1 rfl) ?_
      refine gf_WS_10 C0 hB.1 0 rfl rfl d_WS_two_31 ?_
      refine cM (As := []) (rest := []) C0 (c_SE_openAll hn hnp hk hea heb) (q_WS_69 C0.2.2.2.2.1 rfl rfl ⟨Nat.le_of_ble_eq_true rfl, Nat.le_of_ble_eq_true rfl⟩) (ci := 3) (q0 := 3) rfl rfl rfl hB hl.1 rfl rfl (Nat.le_of_ble_eq_true rfl) d_WS_two_34 ⟨Nat.zero_le _, Nat.zero_le _⟩ (fun v_34 u_34 H locs hp_34 hB => ?_)
      obtain ⟨s1, s2⟩ := u_34
      obtain ⟨rfl, hs1, hs2⟩ := hp_34
      have hB : wB g classes A s.heap (wW a t n kd em br ii oo np ea eb li rn (waL L) L.length s1 s2 ak ap af tt ac ct rp rt rest L) H locs := hB
      refine W.eq (g2 := F0 m 37 ls []) rfl ?_
      refine lv_aload_n C0.1 C0.2.1 d_WS_two_37 rfl (lv_at hl 1 rfl) ?_
      refine gf_WS_10 C0 hB.1 0 rfl rfl d_WS_two_38 ?_
      refine lv_iload_n C0.1 C0.2.1 d_WS_two_41 rfl (lv_at hl 2 rfl) ?_
      refine lv_iload_n C0.1 C0.2.1 d_WS_two_42 rfl (lv_at hl 3 rfl) ?_
      refine cM (As := [.int (nI u0), .int (nI e0)]) (rest := []) C0 (c_SE_leastWay u0 e0 (by omega) (by omega) hn hnp hk hea heb hli) (q_WS_72 C0.2.2.2.2.1 rfl rfl ⟨Nat.le_of_ble_eq_true rfl, Nat.le_of_ble_eq_true rfl⟩) (ci := 3) (q0 := 3) rfl rfl rfl hB hl.1 rfl rfl (Nat.le_of_ble_eq_true rfl) d_WS_two_43 ⟨Nat.le_of_ble_eq_true rfl, Nat.le_of_ble_eq_true rfl⟩ (fun v_43 u_43 H locs hp_43 hB => ?_)
      obtain ⟨⟨k1, p1, f1, t1, c1, d1, r1, q1⟩, ox⟩ := u_43
      obtain ⟨rfl, hw1, hw2⟩ := hp_43
      have hB : wB g classes A s.heap (wW a t n kd em br ii oo np ea eb li rn (waL L) L.length s1 s2 k1 p1 f1 t1 c1 d1 r1 q1 rest (apx L ox)) H locs := hB
      refine W.eq (g2 := F0 m 46 ls [va_rf (Option.map (fun x => x.2.2.1) ox)]) rfl ?_
      cases ox with
      | none =>
        have hB : wB g classes A s.heap (wW a t n kd em br ii oo np ea eb li rn (waL L) L.length s1 s2 k1 p1 f1 t1 c1 d1 r1 q1 rest L) H locs := hB
        refine W.eq (g2 := F0 m 46 ls [.null]) rfl ?_
        refine lv_astoreN (lv' := [(6, .null), (5, .int (refC n kd em (nI u1) (nI e1))), (0, .ref (a 0)), (1, .int (nI u0)), (2, .int (nI e0)), (3, .int (nI u1)), (4, .int (nI e1))]) C0.1 C0.2.1 d_WS_two_46 hl (by decide) rfl (fun ls hl => ?_)
        refine lv_aloadN C0.1 C0.2.1 d_WS_two_48 (lv_at hl 0 rfl) ?_
        refine lv_ifnonnullN C0.1 C0.2.1 d_WS_two_50 ?_
        refine lv_iconst (v := -1) C0.1 C0.2.1 d_WS_two_53 (by decide) ?_
        exact eM_i C0 hr hlk ((s1, s2), (s1, s2), (k1, p1, f1, t1, c1, d1, r1, q1), none, none) (show wB g classes A s.heap (wW a t n kd em br ii oo np ea eb li rn (waL L) L.length s1 s2 k1 p1 f1 t1 c1 d1 r1 q1 rest L) H locs from hB) ⟨rfl, hs1, hs2, hw1, (fun x h => by cases h), fun x h => by cases h⟩ (Nat.le_of_ble_eq_true rfl) (Nat.le_of_ble_eq_true rfl) d_WS_two_54
      | some x =>
        obtain ⟨pa1, ta1, oa1, fr1, to1, lit1, pl1, tl1⟩ := x
        have hB : wB g classes A s.heap (wW a t n kd em br ii oo np ea eb li rn (waL L) L.length s1 s2 k1 p1 f1 t1 c1 d1 r1 q1 rest (L ++ [(pa1, ta1, oa1, fr1, to1, lit1, pl1, tl1)])) H locs := hB
        refine W.eq (g2 := F0 m 46 ls [.ref oa1]) rfl ?_
        obtain ⟨y1, y2, y3, y4⟩ := cLW_ok hw1 hu0 hea heb
        have y3 : pl1.length < 48 := y3
        have y4 : tl1.length = pl1.length + 1 := y4
        refine lv_astore (lv' := [(6, .ref oa1), (5, .int (refC n kd em (nI u1) (nI e1))), (0, .ref (a 0)), (1, .int (nI u0)), (2, .int (nI e0)), (3, .int (nI u1)), (4, .int (nI e1))]) C0.1 C0.2.1 d_WS_two_46 hl (by decide) rfl (fun ls hl => ?_)
        refine lv_aload C0.1 C0.2.1 d_WS_two_48 (lv_at hl 0 rfl) ?_
        refine lv_ifnonnull (tgt := 55) C0.1 C0.2.1 d_WS_two_50 (by decide) ?_
        refine lv_aload_n C0.1 C0.2.1 d_WS_two_55 rfl (lv_at hl 2 rfl) ?_
        refine gf_WS_10 C0 hB.1 0 rfl rfl d_WS_two_56 ?_
        refine lv_aload C0.1 C0.2.1 d_WS_two_59 (lv_at hl 0 rfl) ?_
        refine cM (As := [.ref oa1]) (rest := []) C0 (c_SE_shutWay L.length pa1 ta1 oa1 fr1 to1 lit1 pl1 tl1 (by simp) y1 y2 (by omega) (by omega) hn hnp hk) (q_WS_111 C0.2.2.2.2.1 rfl rfl ⟨Nat.le_of_ble_eq_true rfl, Nat.le_of_ble_eq_true rfl⟩) (ci := 3) (q0 := 3) rfl rfl rfl hB hl.1 rfl rfl (Nat.le_of_ble_eq_true rfl) d_WS_two_61 ⟨Nat.le_of_ble_eq_true rfl, Nat.le_of_ble_eq_true rfl⟩ (fun v_61 u_61 H locs hp_61 hB => ?_)
        obtain ⟨s3, s4⟩ := u_61
        obtain ⟨rfl, hs3, hs4⟩ := hp_61
        have hB : wB g classes A s.heap (wW a t n kd em br ii oo np ea eb li rn (waL L) L.length s3 s4 k1 p1 f1 t1 c1 d1 r1 q1 rest (L ++ [(pa1, ta1, oa1, fr1, to1, lit1, pl1, tl1)])) H locs := hB
        refine W.eq (g2 := F0 m 64 ls []) rfl ?_
        refine lv_aload_n C0.1 C0.2.1 d_WS_two_64 rfl (lv_at hl 2 rfl) ?_
        refine gf_WS_10 C0 hB.1 0 rfl rfl d_WS_two_65 ?_
        refine lv_iload_n C0.1 C0.2.1 d_WS_two_68 rfl (lv_at hl 5 rfl) ?_
        refine lv_iload C0.1 C0.2.1 d_WS_two_69 (lv_at hl 6 rfl) ?_
        refine cM (As := [.int (nI u1), .int (nI e1)]) (rest := []) C0 (c_SE_leastWay u1 e1 (by omega) (by omega) hn hnp hk hea heb hli) (q_WS_72 C0.2.2.2.2.1 rfl rfl ⟨Nat.le_of_ble_eq_true rfl, Nat.le_of_ble_eq_true rfl⟩) (ci := 3) (q0 := 3) rfl rfl rfl hB hl.1 rfl rfl (Nat.le_of_ble_eq_true rfl) d_WS_two_71 ⟨Nat.le_of_ble_eq_true rfl, Nat.le_of_ble_eq_true rfl⟩ (fun v_71 u_71 H locs hp_71 hB => ?_)
        obtain ⟨⟨k2, p2, f2, t2, c2, d2, r2, q2⟩, oy⟩ := u_71
        obtain ⟨rfl, hy1, hy2⟩ := hp_71
        have hB : wB g classes A s.heap (wW a t n kd em br ii oo np ea eb li rn (waL L) L.length s3 s4 k2 p2 f2 t2 c2 d2 r2 q2 rest (apx (L ++ [(pa1, ta1, oa1, fr1, to1, lit1, pl1, tl1)]) oy)) H locs := hB
        refine W.eq (g2 := F0 m 74 ls [va_rf (Option.map (fun x => x.2.2.1) oy)]) rfl ?_
        cases oy with
        | none =>
          have hB : wB g classes A s.heap (wW a t n kd em br ii oo np ea eb li rn (waL L) L.length s3 s4 k2 p2 f2 t2 c2 d2 r2 q2 rest (L ++ [(pa1, ta1, oa1, fr1, to1, lit1, pl1, tl1)])) H locs := hB
          refine W.eq (g2 := F0 m 74 ls [.null]) rfl ?_
          refine lv_astoreN (lv' := [(7, .null), (6, .ref oa1), (5, .int (refC n kd em (nI u1) (nI e1))), (0, .ref (a 0)), (1, .int (nI u0)), (2, .int (nI e0)), (3, .int (nI u1)), (4, .int (nI e1))]) C0.1 C0.2.1 d_WS_two_74 hl (by decide) rfl (fun ls hl => ?_)
          refine lv_aloadN C0.1 C0.2.1 d_WS_two_76 (lv_at hl 0 rfl) ?_
          refine lv_ifnonnullN C0.1 C0.2.1 d_WS_two_78 ?_
          refine lv_iconst (v := -1) C0.1 C0.2.1 d_WS_two_81 (by decide) ?_
          exact eM_i C0 hr hlk ((s1, s2), (s3, s4), (k2, p2, f2, t2, c2, d2, r2, q2), some (pa1, ta1, oa1, fr1, to1, lit1, pl1, tl1), none) (show wB g classes A s.heap (wW a t n kd em br ii oo np ea eb li rn (waL L) L.length s3 s4 k2 p2 f2 t2 c2 d2 r2 q2 rest L) H locs from hB.pop) ⟨rfl, hs1, hs2, hw1, hw2, fun x h => by cases h; exact ⟨hs3, hs4, hy1, hy2⟩⟩ (Nat.le_of_ble_eq_true rfl) (Nat.le_of_ble_eq_true rfl) d_WS_two_82
        | some y =>
          obtain ⟨pa2, ta2, oa2, fr2, to2, lit2, pl2, tl2⟩ := y
          have hB : wB g classes A s.heap (wW a t n kd em br ii oo np ea eb li rn (waL L) L.length s3 s4 k2 p2 f2 t2 c2 d2 r2 q2 rest ((L ++ [(pa1, ta1, oa1, fr1, to1, lit1, pl1, tl1)]) ++ [(pa2, ta2, oa2, fr2, to2, lit2, pl2, tl2)])) H locs := hB
          refine W.eq (g2 := F0 m 74 ls [.ref oa2]) rfl ?_
          refine lv_astore (lv' := [(7, .ref oa2), (6, .ref oa1), (5, .int (refC n kd em (nI u1) (nI e1))), (0, .ref (a 0)), (1, .int (nI u0)), (2, .int (nI e0)), (3, .int (nI u1)), (4, .int (nI e1))]) C0.1 C0.2.1 d_WS_two_74 hl (by decide) rfl (fun ls hl => ?_)
          refine lv_aload C0.1 C0.2.1 d_WS_two_76 (lv_at hl 0 rfl) ?_
          refine lv_ifnonnull (tgt := 83) C0.1 C0.2.1 d_WS_two_78 (by decide) ?_
          refine lv_aload_n C0.1 C0.2.1 d_WS_two_83 rfl (lv_at hl 3 rfl) ?_
          refine gf_WS_32 C0 hB.1 0 rfl rfl d_WS_two_84 ?_
          refine lv_iconst (v := nI 2) C0.1 C0.2.1 d_WS_two_87 (by decide) ?_
          refine lv_iadd C0.1 C0.2.1 d_WS_two_88 ?_
          refine ti (show (nI L.length) + (nI 2) = nI (L.length + 2) from nI_add _ _) ?_
          refine lv_bipush (v := nI 64) C0.1 C0.2.1 d_WS_two_89 (by decide) ?_
          refine lv_icmp_le (tgt := 97) C0.1 C0.2.1 d_WS_two_91 (by decide) (fun c_91 => ?_) (fun c_91 => ?_)
          · have h62 : L.length + 2 ≤ 64 := (nI_leI (by omega) (by decide)).mp c_91
            refine lv_aload_n C0.1 C0.2.1 d_WS_two_97 rfl (lv_at hl 3 rfl) ?_
            refine lv_aload C0.1 C0.2.1 d_WS_two_98 (lv_at hl 1 rfl) ?_
            refine cM (As := [.ref oa1]) (rest := []) C0 (c_WS_keep L.length pa1 ta1 oa1 fr1 to1 lit1 pl1 tl1 (by simp) (by omega)) (q_WS_76 C0.2.2.2.2.1 rfl rfl ⟨Nat.le_of_ble_eq_true rfl, Nat.le_of_ble_eq_true rfl⟩) (ci := 0) (q0 := 0) rfl rfl rfl hB hl.1 rfl rfl (Nat.le_of_ble_eq_true rfl) d_WS_two_100 ⟨Nat.le_of_ble_eq_true rfl, Nat.le_of_ble_eq_true rfl⟩ (fun v_100 u_100 H locs hp_100 hB => ?_)
            obtain rfl := hp_100
            have hB : wB g classes A s.heap (wW a t n kd em br ii oo np ea eb li rn (va_up (waL L) L.length (some oa1)) (L.length + 1) s3 s4 k2 p2 f2 t2 c2 d2 r2 q2 rest ((L ++ [(pa1, ta1, oa1, fr1, to1, lit1, pl1, tl1)]) ++ [(pa2, ta2, oa2, fr2, to2, lit2, pl2, tl2)])) H locs := hB
            refine W.eq (g2 := F0 m 103 ls [.int (nI L.length)]) rfl ?_
            refine lv_pop C0.1 C0.2.1 d_WS_two_103 rfl ?_
            refine lv_aload_n C0.1 C0.2.1 d_WS_two_104 rfl (lv_at hl 3 rfl) ?_
            refine lv_aload C0.1 C0.2.1 d_WS_two_105 (lv_at hl 0 rfl) ?_
            refine cM (As := [.ref oa2]) (rest := []) C0 (c_WS_keep (L.length + 1) pa2 ta2 oa2 fr2 to2 lit2 pl2 tl2 (by simp) (by omega)) (q_WS_76 C0.2.2.2.2.1 rfl rfl ⟨Nat.le_of_ble_eq_true rfl, Nat.le_of_ble_eq_true rfl⟩) (ci := 0) (q0 := 0) rfl rfl rfl hB hl.1 rfl rfl (Nat.le_of_ble_eq_true rfl) d_WS_two_107 ⟨Nat.le_of_ble_eq_true rfl, Nat.le_of_ble_eq_true rfl⟩ (fun v_107 u_107 H locs hp_107 hB => ?_)
            obtain rfl := hp_107
            have hB : wB g classes A s.heap (wW a t n kd em br ii oo np ea eb li rn (va_up (va_up (waL L) L.length (some oa1)) (L.length + 1) (some oa2)) (L.length + 1 + 1) s3 s4 k2 p2 f2 t2 c2 d2 r2 q2 rest ((L ++ [(pa1, ta1, oa1, fr1, to1, lit1, pl1, tl1)]) ++ [(pa2, ta2, oa2, fr2, to2, lit2, pl2, tl2)])) H locs := hB
            refine W.eq (g2 := F0 m 110 ls [.int (nI (L.length + 1))]) rfl ?_
            have eL : (L ++ [(pa1, ta1, oa1, fr1, to1, lit1, pl1, tl1)]).length = L.length + 1 := by simp
            exact eM_i C0 hr hlk ((s1, s2), (s3, s4), (k2, p2, f2, t2, c2, d2, r2, q2), some (pa1, ta1, oa1, fr1, to1, lit1, pl1, tl1), some (pa2, ta2, oa2, fr2, to2, lit2, pl2, tl2)) (show wB g classes A s.heap (wW a t n kd em br ii oo np ea eb li rn (waL (twoL L (some (pa1, ta1, oa1, fr1, to1, lit1, pl1, tl1)) (some (pa2, ta2, oa2, fr2, to2, lit2, pl2, tl2)))) ((twoL L (some (pa1, ta1, oa1, fr1, to1, lit1, pl1, tl1)) (some (pa2, ta2, oa2, fr2, to2, lit2, pl2, tl2))).length) s3 s4 k2 p2 f2 t2 c2 d2 r2 q2 rest (twoL L (some (pa1, ta1, oa1, fr1, to1, lit1, pl1, tl1)) (some (pa2, ta2, oa2, fr2, to2, lit2, pl2, tl2)))) H locs by rw [show (twoL L (some (pa1, ta1, oa1, fr1, to1, lit1, pl1, tl1)) (some (pa2, ta2, oa2, fr2, to2, lit2, pl2, tl2))) = (L ++ [(pa1, ta1, oa1, fr1, to1, lit1, pl1, tl1)]) ++ [(pa2, ta2, oa2, fr2, to2, lit2, pl2, tl2)] from if_pos h62]; rw [← waL_push (L := L ++ [(pa1, ta1, oa1, fr1, to1, lit1, pl1, tl1)]) (x := (pa2, ta2, oa2, fr2, to2, lit2, pl2, tl2)), ← waL_push (x := (pa1, ta1, oa1, fr1, to1, lit1, pl1, tl1)), List.length_append (as := L ++ [(pa1, ta1, oa1, fr1, to1, lit1, pl1, tl1)]), eL]; exact hB) ⟨by rw [show twoR L.length (some (pa1, ta1, oa1, fr1, to1, lit1, pl1, tl1)) (some (pa2, ta2, oa2, fr2, to2, lit2, pl2, tl2)) = nI (L.length + 1) from if_pos h62], hs1, hs2, hw1, hw2, fun x h => by cases h; exact ⟨hs3, hs4, hy1, hy2⟩⟩ (Nat.le_of_ble_eq_true rfl) (Nat.le_of_ble_eq_true rfl) d_WS_two_110
          · have h62 : ¬ L.length + 2 ≤ 64 := fun q => c_91 (nI_le q (by decide))
            refine lv_bipush (v := -5) C0.1 C0.2.1 d_WS_two_94 (by decide) ?_
            exact eM_i C0 hr hlk ((s1, s2), (s3, s4), (k2, p2, f2, t2, c2, d2, r2, q2), some (pa1, ta1, oa1, fr1, to1, lit1, pl1, tl1), some (pa2, ta2, oa2, fr2, to2, lit2, pl2, tl2)) (show wB g classes A s.heap (wW a t n kd em br ii oo np ea eb li rn (waL (twoL L (some (pa1, ta1, oa1, fr1, to1, lit1, pl1, tl1)) (some (pa2, ta2, oa2, fr2, to2, lit2, pl2, tl2)))) ((twoL L (some (pa1, ta1, oa1, fr1, to1, lit1, pl1, tl1)) (some (pa2, ta2, oa2, fr2, to2, lit2, pl2, tl2))).length) s3 s4 k2 p2 f2 t2 c2 d2 r2 q2 rest (twoL L (some (pa1, ta1, oa1, fr1, to1, lit1, pl1, tl1)) (some (pa2, ta2, oa2, fr2, to2, lit2, pl2, tl2)))) H locs by rw [show (twoL L (some (pa1, ta1, oa1, fr1, to1, lit1, pl1, tl1)) (some (pa2, ta2, oa2, fr2, to2, lit2, pl2, tl2))) = L from if_neg h62]; exact hB.pop.pop) ⟨by rw [show twoR L.length (some (pa1, ta1, oa1, fr1, to1, lit1, pl1, tl1)) (some (pa2, ta2, oa2, fr2, to2, lit2, pl2, tl2)) = -5 from if_neg h62], hs1, hs2, hw1, hw2, fun x h => by cases h; exact ⟨hs3, hs4, hy1, hy2⟩⟩ (Nat.le_of_ble_eq_true rfl) (Nat.le_of_ble_eq_true rfl) d_WS_two_96
    · exact absurd hok2 c_24
end CALLS5

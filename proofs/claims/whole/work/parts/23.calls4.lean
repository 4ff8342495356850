theorem wB.drop {g : va_G} {cl : List vw_C} {A : Nat → Prop} {H0 : Heap} {w w' : va_W} {H : Heap} {locs : List Loc} (hB : wB g cl A H0 (w ++ w') H locs) : wB g cl A H0 w H locs := by
  obtain ⟨hP, hD, hS, hA⟩ := hB
  refine ⟨fun k q hk => hP k q (app_low hk), ⟨fun i j p q hi hj e => hD.1 i j p q (app_low hi) (app_low hj) e, fun k q hk => hD.2 k q (app_low hk)⟩, hS, hA⟩
theorem wB.pop {g : va_G} {cl : List vw_C} {A : Nat → Prop} {H0 : Heap} {H : Heap} {locs : List Loc} {a : Nat → Nat} {t : Nat → ClassId} {n : Nat} {kd : Nat → Nat} {em : Nat → Bool} {br : Nat → Bool} {ii : Nat → Int32} {oo : Nat → Int32} {np : Nat} {ea : Nat → Nat} {eb : Nat → Nat} {li : Nat → Nat} {rn : Nat → Bool} {wa : Nat → Option Nat} {wn : Nat} {sT : Nat → Bool} {sP : Nat → Bool} {ak : Nat} {ap : Nat → Nat} {af : Nat → Nat} {tt : Nat → Nat} {ac : Nat → Nat} {ct : Nat → Nat} {rp : Nat → Nat} {rt : Nat → Nat} {rest : va_W} {L : List Wy} {x : Wy} (hB : wB g cl A H0 (wW a t n kd em br ii oo np ea eb li rn wa wn sT sP ak ap af tt ac ct rp rt rest (L ++ [x])) H locs) : wB g cl A H0 (wW a t n kd em br ii oo np ea eb li rn wa wn sT sP ak ap af tt ac ct rp rt rest L) H locs := by
  rw [wW_push] at hB
  exact hB.drop.drop.drop
section CALLS4
variable {l : Launch} {g : va_G} {t : Nat → ClassId} {a : Nat → Nat} {n : Nat} {kd : Nat → Nat} {em : Nat → Bool} {br : Nat → Bool} {ii : Nat → Int32} {oo : Nat → Int32} {np : Nat} {ea : Nat → Nat} {eb : Nat → Nat} {li : Nat → Nat} {rn : Nat → Bool} {wa : Nat → Option Nat} {wn : Nat} {sT : Nat → Bool} {sP : Nat → Bool} {ak : Nat} {ap : Nat → Nat} {af : Nat → Nat} {tt : Nat → Nat} {ac : Nat → Nat} {ct : Nat → Nat} {rp : Nat → Nat} {rt : Nat → Nat} {rest : va_W} {L : List Wy}
set_option maxHeartbeats 4000000 in
set_option maxRecDepth 100000 in
theorem c_WS_way_no (x y : Int32) (hn : n ≤ 48) (hk : ∀ j, kd j < 3) (hno : ¬ refC n kd em x y = 0) : Rd l y_WS_way w_WS_way ({ frames := 4, cells := 0, slots := 0, locals := 132 }) g classes (tyL t) [.ref (a 0), .int x, .int y] (wW a t n kd em br ii oo np ea eb li rn wa wn sT sP ak ap af tt ac ct rp rt rest L) (some (.int (refC n kd em x y))) := by
  refine Rd.of (cc := b_WS_way) (maxL := 4) (ret := (some .int)) (own := R_WS) (by decide) rfl rfl (Nat.le_of_ble_eq_true rfl) ?_
  intro p e s m args below meth c C0 hr hlk hP ls hl
  have hl : lv_has ls 4 [(0, .ref (a 0)), (1, .int x), (2, .int y)] := hl
  refine lv_aload_n C0.1 C0.2.1 d_WS_way_0 rfl (lv_at hl 0 rfl) ?_
  refine lv_iload_n C0.1 C0.2.1 d_WS_way_1 rfl (lv_at hl 1 rfl) ?_
  refine lv_iload_n C0.1 C0.2.1 d_WS_way_2 rfl (lv_at hl 2 rfl) ?_
  refine cR (As := [.int x, .int y]) (rest := []) C0 (c_WS_refusalOfEnds x y hn hk) (q_WS_65 C0.2.2.2.2.1 rfl rfl ⟨Nat.le_of_ble_eq_true rfl, Nat.le_of_ble_eq_true rfl⟩) (ci := 0) (q0 := 0) rfl rfl rfl hP hl.1 rfl rfl (Nat.le_of_ble_eq_true rfl) d_WS_way_3 ⟨Nat.zero_le _, Nat.zero_le _⟩ ?_
  refine W.eq (g2 := F0 m 6 ls [.int (refC n kd em x y)]) rfl ?_
  refine lv_istore_n (lv' := [(3, .int (refC n kd em x y)), (0, .ref (a 0)), (1, .int x), (2, .int y)]) C0.1 C0.2.1 d_WS_way_6 rfl hl (by decide) rfl (fun ls hl => ?_)
  refine lv_iload_n C0.1 C0.2.1 d_WS_way_7 rfl (lv_at hl 0 rfl) ?_
  refine lv_if_eq (tgt := 13) C0.1 C0.2.1 d_WS_way_8 (by decide) (fun c_8 => ?_) (fun c_8 => ?_)
  · exact absurd c_8 hno
  · refine lv_iload_n C0.1 C0.2.1 d_WS_way_11 rfl (lv_at hl 0 rfl) ?_
    exact eR_i C0 hr hlk (rfl) d_WS_way_12
def wayR (k : Nat) : Option Wy → Int32
  | none => -1
  | some _ => if k < 64 then nI k else -5
set_option maxHeartbeats 4000000 in
set_option maxRecDepth 100000 in
theorem c_WS_way (u0 e0 : Nat) (hu0 : u0 < n) (he0 : e0 < n) (hok : refC n kd em (nI u0) (nI e0) = 0) (hL : L.length ≤ 64) (hn : n ≤ 48) (hnp : np ≤ 96) (hk : ∀ j, kd j < 3) (hea : ∀ j, j < np → ea j < n) (heb : ∀ j, j < np → eb j < n) (hli : ∀ j, j < np → 1 ≤ li j ∧ li j ≤ 1000000000) : Mt l y_WS_way w_WS_way ({ frames := 4, cells := 3, slots := 100, locals := 132 }) g classes (tyL t) [.ref (a 0), .int (nI u0), .int (nI e0)] (wW a t n kd em br ii oo np ea eb li rn (waL L) L.length sT sP ak ap af tt ac ct rp rt rest L) (S := ((Nat → Bool) × (Nat → Bool)) × (Nat × (Nat → Nat) × (Nat → Nat) × (Nat → Nat) × (Nat → Nat) × (Nat → Nat) × (Nat → Nat) × (Nat → Nat)) × Option Wy) (fun v z => v = some (.int (wayR L.length z.2.2)) ∧ (∀ x, x < n → z.1.1 x = shT kd br rn ea eb np x) ∧ (∀ p, p < np → z.1.2 p = rn p) ∧ cLW kd ii oo np ea eb li z.1.1 z.1.2 u0 e0 (z.2.2.map (fun x => (x.2.2.2.2.2.1, x.2.2.2.2.2.2.1, x.2.2.2.2.2.2.2))) ∧ ∀ x, z.2.2 = some x → x.2.2.2.1 = u0 ∧ x.2.2.2.2.1 = e0) (fun z => (wW a t n kd em br ii oo np ea eb li rn (waL (if L.length < 64 then apx L z.2.2 else L)) ((if L.length < 64 then apx L z.2.2 else L).length) z.1.1 z.1.2 z.2.1.1 z.2.1.2.1 z.2.1.2.2.1 z.2.1.2.2.2.1 z.2.1.2.2.2.2.1 z.2.1.2.2.2.2.2.1 z.2.1.2.2.2.2.2.2.1 z.2.1.2.2.2.2.2.2.2 rest (if L.length < 64 then apx L z.2.2 else L))) 3 100 := by
  refine Mt.of (cc := b_WS_way) (maxL := 4) (ret := (some .int)) (own := R_WS) (by decide) rfl rfl (Nat.le_of_ble_eq_true rfl) ?_
  intro p e s m args below meth c C0 hr hlk hin A hA hB ls hl
  have hl : lv_has ls 4 [(0, .ref (a 0)), (1, .int (nI u0)), (2, .int (nI e0))] := hl
  refine lv_aload_n C0.1 C0.2.1 d_WS_way_0 rfl (lv_at hl 0 rfl) ?_
  refine lv_iload_n C0.1 C0.2.1 d_WS_way_1 rfl (lv_at hl 1 rfl) ?_
  refine lv_iload_n C0.1 C0.2.1 d_WS_way_2 rfl (lv_at hl 2 rfl) ?_
  refine cR (As := [.int (nI u0), .int (nI e0)]) (rest := []) C0 (c_WS_refusalOfEnds (nI u0) (nI e0) hn hk) (q_WS_65 C0.2.2.2.2.1 rfl rfl ⟨Nat.le_of_ble_eq_true rfl, Nat.le_of_ble_eq_true rfl⟩) (ci := 0) (q0 := 0) rfl rfl rfl hB.1 hl.1 rfl rfl (Nat.le_of_ble_eq_true rfl) d_WS_way_3 ⟨Nat.zero_le _, Nat.zero_le _⟩ ?_
  refine W.eq (g2 := F0 m 6 ls [.int (refC n kd em (nI u0) (nI e0))]) rfl ?_
  refine lv_istore_n (lv' := [(3, .int (refC n kd em (nI u0) (nI e0))), (0, .ref (a 0)), (1, .int (nI u0)), (2, .int (nI e0))]) C0.1 C0.2.1 d_WS_way_6 rfl hl (by decide) rfl (fun ls hl => ?_)
  refine lv_iload_n C0.1 C0.2.1 d_WS_way_7 rfl (lv_at hl 0 rfl) ?_
  refine lv_if_eq (tgt := 13) C0.1 C0.2.1 d_WS_way_8 (by decide) (fun c_8 => ?_) (fun c_8 => ?_)
  · refine lv_aload_n C0.1 C0.2.1 d_WS_way_13 rfl (lv_at hl 1 rfl) ?_
    refine gf_WS_10 C0 hB.1 0 rfl rfl d_WS_way_14 ?_
    refine cM (As := []) (rest := []) C0 (c_SE_openAll hn hnp hk hea heb) (q_WS_69 C0.2.2.2.2.1 rfl rfl ⟨Nat.le_of_ble_eq_true rfl, Nat.le_of_ble_eq_true rfl⟩) (ci := 3) (q0 := 3) rfl rfl rfl hB hl.1 rfl rfl (Nat.le_of_ble_eq_true rfl) d_WS_way_17 ⟨Nat.zero_le _, Nat.zero_le _⟩ (fun v_17 u_17 H locs hp_17 hB => ?_)
    obtain ⟨s1, s2⟩ := u_17
    obtain ⟨rfl, hs1, hs2⟩ := hp_17
    have hB : wB g classes A s.heap (wW a t n kd em br ii oo np ea eb li rn (waL L) L.length s1 s2 ak ap af tt ac ct rp rt rest L) H locs := hB
    refine W.eq (g2 := F0 m 20 ls []) rfl ?_
    refine lv_aload_n C0.1 C0.2.1 d_WS_way_20 rfl (lv_at hl 1 rfl) ?_
    refine lv_aload_n C0.1 C0.2.1 d_WS_way_21 rfl (lv_at hl 1 rfl) ?_
    refine gf_WS_10 C0 hB.1 0 rfl rfl d_WS_way_22 ?_
    refine lv_iload_n C0.1 C0.2.1 d_WS_way_25 rfl (lv_at hl 2 rfl) ?_
    refine lv_iload_n C0.1 C0.2.1 d_WS_way_26 rfl (lv_at hl 3 rfl) ?_
    refine cM (As := [.int (nI u0), .int (nI e0)]) (rest := [.ref (a 0)]) C0 (c_SE_leastWay u0 e0 (by omega) (by omega) hn hnp hk hea heb hli) (q_WS_72 C0.2.2.2.2.1 rfl rfl ⟨Nat.le_of_ble_eq_true rfl, Nat.le_of_ble_eq_true rfl⟩) (ci := 3) (q0 := 3) rfl rfl rfl hB hl.1 rfl rfl (Nat.le_of_ble_eq_true rfl) d_WS_way_27 ⟨Nat.le_of_ble_eq_true rfl, Nat.le_of_ble_eq_true rfl⟩ (fun v_27 u_27 H locs hp_27 hB => ?_)
    obtain ⟨⟨k1, p1, f1, t1, c1, d1, r1, q1⟩, ox⟩ := u_27
    obtain ⟨rfl, hw1, hw2⟩ := hp_27
    have hB : wB g classes A s.heap (wW a t n kd em br ii oo np ea eb li rn (waL L) L.length s1 s2 k1 p1 f1 t1 c1 d1 r1 q1 rest (apx L ox)) H locs := hB
    refine W.eq (g2 := F0 m 30 ls [va_rf (Option.map (fun x => x.2.2.1) ox), .ref (a 0)]) rfl ?_
    cases ox with
    | none =>
      have hB : wB g classes A s.heap (wW a t n kd em br ii oo np ea eb li rn (waL L) L.length s1 s2 k1 p1 f1 t1 c1 d1 r1 q1 rest L) H locs := hB
      refine W.eq (g2 := F0 m 30 ls [.null, .ref (a 0)]) rfl ?_
      refine cR (As := [.null]) (rest := []) C0 (c_WS_keep_null) (q_WS_76 C0.2.2.2.2.1 rfl rfl ⟨Nat.le_of_ble_eq_true rfl, Nat.le_of_ble_eq_true rfl⟩) (ci := 0) (q0 := 0) rfl rfl rfl hB.1 hl.1 rfl rfl (Nat.le_of_ble_eq_true rfl) d_WS_way_30 ⟨Nat.le_of_ble_eq_true rfl, Nat.le_of_ble_eq_true rfl⟩ ?_
      refine W.eq (g2 := F0 m 33 ls [.int (-1)]) rfl ?_
      exact eM_i C0 hr hlk ((s1, s2), (k1, p1, f1, t1, c1, d1, r1, q1), none) (show wB g classes A s.heap (wW a t n kd em br ii oo np ea eb li rn (waL (if L.length < 64 then apx L none else L)) ((if L.length < 64 then apx L none else L).length) s1 s2 k1 p1 f1 t1 c1 d1 r1 q1 rest (if L.length < 64 then apx L none else L)) H locs by rw [show ((if L.length < 64 then apx L none else L) : List Wy) = L by simp [apx]]; exact hB) ⟨rfl, hs1, hs2, hw1, hw2⟩ (Nat.le_of_ble_eq_true rfl) (Nat.le_of_ble_eq_true rfl) d_WS_way_33
    | some x =>
      obtain ⟨pa, ta, oa, fr, to0, lit, pl, tl⟩ := x
      have hB : wB g classes A s.heap (wW a t n kd em br ii oo np ea eb li rn (waL L) L.length s1 s2 k1 p1 f1 t1 c1 d1 r1 q1 rest (L ++ [(pa, ta, oa, fr, to0, lit, pl, tl)])) H locs := hB
      refine W.eq (g2 := F0 m 30 ls [.ref oa, .ref (a 0)]) rfl ?_
      by_cases h64 : L.length < 64
      · refine cM (As := [.ref oa]) (rest := []) C0 (c_WS_keep L.length pa ta oa fr to0 lit pl tl (by simp) h64) (q_WS_76 C0.2.2.2.2.1 rfl rfl ⟨Nat.le_of_ble_eq_true rfl, Nat.le_of_ble_eq_true rfl⟩) (ci := 0) (q0 := 0) rfl rfl rfl hB hl.1 rfl rfl (Nat.le_of_ble_eq_true rfl) d_WS_way_30 ⟨Nat.le_of_ble_eq_true rfl, Nat.le_of_ble_eq_true rfl⟩ (fun v_30 u_30 H locs hp_30 hB => ?_)
        obtain rfl := hp_30
        have hB : wB g classes A s.heap (wW a t n kd em br ii oo np ea eb li rn (va_up (waL L) L.length (some oa)) (L.length + 1) s1 s2 k1 p1 f1 t1 c1 d1 r1 q1 rest (L ++ [(pa, ta, oa, fr, to0, lit, pl, tl)])) H locs := hB
        refine W.eq (g2 := F0 m 33 ls [.int (nI L.length)]) rfl ?_
        exact eM_i C0 hr hlk ((s1, s2), (k1, p1, f1, t1, c1, d1, r1, q1), some (pa, ta, oa, fr, to0, lit, pl, tl)) (show wB g classes A s.heap (wW a t n kd em br ii oo np ea eb li rn (waL (if L.length < 64 then apx L (some (pa, ta, oa, fr, to0, lit, pl, tl)) else L)) ((if L.length < 64 then apx L (some (pa, ta, oa, fr, to0, lit, pl, tl)) else L).length) s1 s2 k1 p1 f1 t1 c1 d1 r1 q1 rest (if L.length < 64 then apx L (some (pa, ta, oa, fr, to0, lit, pl, tl)) else L)) H locs by rw [show ((if L.length < 64 then apx L (some (pa, ta, oa, fr, to0, lit, pl, tl)) else L) : List Wy) = L ++ [(pa, ta, oa, fr, to0, lit, pl, tl)] by rw [if_pos h64]; rfl, List.length_append]; rw [← waL_push (x := (pa, ta, oa, fr, to0, lit, pl, tl))]; exact hB) ⟨by rw [show wayR L.length (some (pa, ta, oa, fr, to0, lit, pl, tl)) = nI L.length from if_pos h64], hs1, hs2, hw1, hw2⟩ (Nat.le_of_ble_eq_true rfl) (Nat.le_of_ble_eq_true rfl) d_WS_way_33
      · refine cR (As := [.ref oa]) (rest := []) C0 (c_WS_keep_full oa (by omega)) (q_WS_76 C0.2.2.2.2.1 rfl rfl ⟨Nat.le_of_ble_eq_true rfl, Nat.le_of_ble_eq_true rfl⟩) (ci := 0) (q0 := 0) rfl rfl rfl hB.1 hl.1 rfl rfl (Nat.le_of_ble_eq_true rfl) d_WS_way_30 ⟨Nat.le_of_ble_eq_true rfl, Nat.le_of_ble_eq_true rfl⟩ ?_
        refine W.eq (g2 := F0 m 33 ls [.int (-5)]) rfl ?_
        exact eM_i C0 hr hlk ((s1, s2), (k1, p1, f1, t1, c1, d1, r1, q1), some (pa, ta, oa, fr, to0, lit, pl, tl)) (show wB g classes A s.heap (wW a t n kd em br ii oo np ea eb li rn (waL (if L.length < 64 then apx L (some (pa, ta, oa, fr, to0, lit, pl, tl)) else L)) ((if L.length < 64 then apx L (some (pa, ta, oa, fr, to0, lit, pl, tl)) else L).length) s1 s2 k1 p1 f1 t1 c1 d1 r1 q1 rest (if L.length < 64 then apx L (some (pa, ta, oa, fr, to0, lit, pl, tl)) else L)) H locs by rw [show ((if L.length < 64 then apx L (some (pa, ta, oa, fr, to0, lit, pl, tl)) else L) : List Wy) = L from if_neg h64]; exact hB.pop) ⟨by rw [show wayR L.length (some (pa, ta, oa, fr, to0, lit, pl, tl)) = -5 from if_neg h64], hs1, hs2, hw1, hw2⟩ (Nat.le_of_ble_eq_true rfl) (Nat.le_of_ble_eq_true rfl) d_WS_way_33
  · exact absurd hok c_8
end CALLS4

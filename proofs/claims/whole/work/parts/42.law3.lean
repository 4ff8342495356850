section LE
variable {n : Nat} {kd : Nat → Nat} {em br : Nat → Bool} {ii oo : Nat → Int32} {np : Nat} {ea eb li : Nat → Nat} {rn : Nat → Bool} {L : List Wy} {wp wl wf wt wp' wl' wf' wt' : Nat → Nat} {sT sP sT' sP' : Nat → Bool} {u0 e0 : Nat} {ox : Option Wy}
theorem way_none (h : Inv0 n kd em br np ea eb li rn) (hu : u0 < n) (he : e0 < n) (hke : kd e0 = 0) (hue : u0 ≠ e0) (hsT : ∀ v, v < n → sT v = sT' v) (hsP : ∀ p, p < np → sP p = sP' p) (hc : cLW kd ii oo np ea eb li sT sP u0 e0 (ox.map (fun x => (x.2.2.2.2.2.1, x.2.2.2.2.2.2.1, x.2.2.2.2.2.2.2)))) (hm : mNo n kd ii oo np ea eb li sT' sP' u0 e0) : ox = none := by
  obtain ⟨h1, h2, h3, h4, h5, h6, h7, h8, h9, h10⟩ := h
  exact Option.map_eq_none_iff.mp (LW_no h1 h2 h4 h5 h6 hsT hsP hu he hue hke hc hm)
theorem way_some (h : Inv0 n kd em br np ea eb li rn) (hu : u0 < n) (hke : kd e0 = 0) (hsT : ∀ v, v < n → sT v = sT' v) (hsP : ∀ p, p < np → sP p = sP' p) (hc : cLW kd ii oo np ea eb li sT sP u0 e0 (ox.map (fun x => (x.2.2.2.2.2.1, x.2.2.2.2.2.2.1, x.2.2.2.2.2.2.2)))) {w : List (Nat × Nat)} (hm : mFw n kd ii oo np ea eb li sT' sP' u0 e0 w) : ∃ x, ox = some x ∧ (x.2.2.2.2.2.1, x.2.2.2.2.2.2.1, x.2.2.2.2.2.2.2) = (sumP li (rPl w) (rPl w).length, rPl w, rNd u0 w) := by
  obtain ⟨h1, h2, h3, h4, h5, h6, h7, h8, h9, h10⟩ := h
  exact Option.map_eq_some_iff.mp (LW_fw h1 h2 h4 h5 h6 h7 hsT hsP hu hke hc hm)
theorem way_end (h : LInv n kd em br np ea eb li rn L wp wl wf wt) (hf : L.length < 64) (hu : u0 < n) (he : e0 < n) (hku : kd u0 = 0) (hke : kd e0 = 0) (hue : u0 ≠ e0) (hsT : ∀ v, v < n → sT v = sT' v) (hsP : ∀ p, p < np → sP p = sP' p) (hc : cLW kd ii oo np ea eb li sT sP u0 e0 (ox.map (fun x => (x.2.2.2.2.2.1, x.2.2.2.2.2.2.1, x.2.2.2.2.2.2.2)))) (hx : ∀ x, ox = some x → x.2.2.2.1 = u0 ∧ x.2.2.2.2.1 = e0) {ow : Option (List (Nat × Nat))} (hm : (∃ w, ow = some w ∧ mFw n kd ii oo np ea eb li sT' sP' u0 e0 w ∧ (∀ j, j < w.length → wp' (L.length * 48 + j) = (rPl w).getD j 0) ∧ (∀ x, (x < L.length * 48 ∨ L.length * 48 + 48 ≤ x) → wp' x = wp x) ∧ wl' = va_up wl L.length w.length ∧ wf' = va_up wf L.length u0 ∧ wt' = va_up wt L.length e0) ∨ (ow = none ∧ mNo n kd ii oo np ea eb li sT' sP' u0 e0 ∧ (wp', wl', wf', wt') = (wp, wl, wf, wt))) : wayR L.length ox = (if ow.isSome = true then nI L.length else -1) ∧ LInv n kd em br np ea eb li rn (apx L ox) wp' wl' wf' wt' ∧ (if ow.isSome = true then L.length + 1 else L.length) = (apx L ox).length := by
  rcases hm with ⟨w, rfl, m1, m2, m3, rfl, rfl, rfl⟩ | ⟨rfl, m1, m2⟩
  · obtain ⟨x, rfl, hx3⟩ := way_some h.1 hu hke hsT hsP hc m1
    obtain ⟨hx1, hx2⟩ := hx x rfl
    have e2 : x.2.2.2.2.2.2.1 = rPl w := congrArg (fun z => z.2.1) hx3
    refine ⟨?_, ?_, ?_⟩
    · show (if L.length < 64 then nI L.length else -5) = nI L.length
      rw [if_pos hf]
    · show LInv n kd em br np ea eb li rn (L ++ [x]) _ _ _ _
      refine LInv_push h (WOk_new h.1 hu he hku hke hue m1 hx1 hx2 hx3) hf ?_ ?_ ?_ ?_ ?_ ?_
      · rw [va_up_self, e2, rPl_len]
      · intro j hj
        rw [e2] at hj ⊢
        rw [rPl_len] at hj
        exact m2 j hj
      · rw [va_up_self, hx1]
      · rw [va_up_self, hx2]
      · exact fun z hz => m3 z (Or.inl hz)
      · intro i hi
        exact ⟨up_lt hi, up_lt hi, up_lt hi⟩
    · show L.length + 1 = (L ++ [x]).length
      simp
  · cases way_none h.1 hu he hke hue hsT hsP hc m1
    cases m2
    exact ⟨rfl, h, rfl⟩
theorem way_full (h : Inv0 n kd em br np ea eb li rn) (hf : L.length = 64) (hu : u0 < n) (he : e0 < n) (hke : kd e0 = 0) (hue : u0 ≠ e0) (hsT : ∀ v, v < n → sT v = sT' v) (hsP : ∀ p, p < np → sP p = sP' p) (hc : cLW kd ii oo np ea eb li sT sP u0 e0 (ox.map (fun x => (x.2.2.2.2.2.1, x.2.2.2.2.2.2.1, x.2.2.2.2.2.2.2)))) {ob : Bool} (hm : (ob = true ∧ mYes n kd ii oo np ea eb li sT' sP' u0 e0) ∨ (ob = false ∧ mNo n kd ii oo np ea eb li sT' sP' u0 e0)) : wayR L.length ox = (if ob = true then -5 else -1) := by
  rcases hm with ⟨rfl, m1⟩ | ⟨rfl, m1⟩
  · obtain ⟨h1, h2, h3, h4, h5, h6, h7, h8, h9, h10⟩ := h
    have := LW_yes h4 h5 hsT hsP hu hke hc m1
    cases ox with
    | none => cases this
    | some x =>
      show (if L.length < 64 then nI L.length else -5) = -5
      rw [if_neg (by omega)]
  · cases way_none h hu he hke hue hsT hsP hc m1
    rfl
theorem LInv_same (h : LInv n kd em br np ea eb li rn L wp wl wf wt) (k1 : ∀ z, wp' z = wp z) (k2 : ∀ i, wl' i = wl i ∧ wf' i = wf i ∧ wt' i = wt i) : LInv n kd em br np ea eb li rn L wp' wl' wf' wt' := ⟨h.1, h.2.1, h.2.2.1, WRel_same h.2.2.2 k1 k2⟩
theorem two_end {u1 e1 a0 : Nat} {s3c s4c s3 s4 : Nat → Bool} {oy : Option Wy} (h : LInv n kd em br np ea eb li rn L wp wl wf wt) (ha0 : a0 = if L.length < 63 then L.length else 62) (hu : u0 < n) (he : e0 < n) (hku : kd u0 = 0) (hke : kd e0 = 0) (hue : u0 ≠ e0) (hu1 : u1 < n) (he1 : e1 < n) (hku1 : kd u1 = 0) (hke1 : kd e1 = 0) (hue1 : u1 ≠ e1) (hsT : ∀ v, v < n → sT v = sT' v) (hsP : ∀ p, p < np → sP p = sP' p) (hc : cLW kd ii oo np ea eb li sT sP u0 e0 (ox.map (fun x => (x.2.2.2.2.2.1, x.2.2.2.2.2.2.1, x.2.2.2.2.2.2.2)))) (hx : ∀ x, ox = some x → x.2.2.2.1 = u0 ∧ x.2.2.2.2.1 = e0) (hy : ∀ x, ox = some x → ((∀ v, s3c v = (sT v || decide (v ∈ x.2.2.2.2.2.2.2 ∧ kd v ≠ 0))) ∧ (∀ p, s4c p = (sP p || decide (p ∈ x.2.2.2.2.2.2.1))) ∧ cLW kd ii oo np ea eb li s3c s4c u1 e1 (oy.map (fun x => (x.2.2.2.2.2.1, x.2.2.2.2.2.2.1, x.2.2.2.2.2.2.2))) ∧ ∀ y, oy = some y → y.2.2.2.1 = u1 ∧ y.2.2.2.2.1 = e1)) {x y : Option (List (Nat × Nat))} {r : Int32} {wn' : Nat} (hm : TwoP n kd ii oo np ea eb li u0 e0 u1 e1 a0 wp wl wf wt L.length sT' sP' s3 s4 wp' wl' wf' wt' wn' x y r) : twoR L.length ox oy = r ∧ LInv n kd em br np ea eb li rn (twoL L ox oy) wp' wl' wf' wt' ∧ wn' = (twoL L ox oy).length := by
  obtain ⟨wpF, wlF, wfF, wtF, ⟨f1, f2, f3⟩, f4⟩ := hm
  rcases f1 with ⟨rfl, rfl, m1⟩ | ⟨w, rfl, m1, m2, m3, m4, m5, m6, m7, m8⟩
  · cases way_none h.1 hu he hke hue hsT hsP hc m1
    rcases f4 with ⟨b, -⟩ | ⟨-, rfl, rfl, k1, k2⟩
    · cases b
    · cases oy <;> exact ⟨rfl, LInv_same h k1 k2, rfl⟩
  · obtain ⟨x, rfl, hx3⟩ := way_some h.1 hu hke hsT hsP hc m1
    obtain ⟨hx1, hx2⟩ := hx x rfl
    obtain ⟨d1, d2, d3, d4⟩ := hy x rfl
    have e2 : x.2.2.2.2.2.2.1 = rPl w := congrArg (fun z => z.2.1) hx3
    have e3 : x.2.2.2.2.2.2.2 = rNd u0 w := congrArg (fun z => z.2.2) hx3
    have s3e : ∀ v, v < n → s3c v = s3 v := fun v hv => by rw [d1, m2, hsT v hv, e3]
    have s4e : ∀ p, p < np → s4c p = s4 p := fun p hp => by rw [d2, m3, hsP p hp, e2]
    rcases m8 with ⟨rfl, m9⟩ | ⟨w2, rfl, m9, m10, m11, m12, m13⟩
    · cases way_none h.1 hu1 he1 hke1 hue1 s3e s4e d3 m9
      rcases f4 with ⟨b, -⟩ | ⟨-, rfl, rfl, k1, k2⟩
      · cases b
      · exact ⟨rfl, LInv_same h k1 k2, rfl⟩
    · obtain ⟨y, rfl, hy3⟩ := way_some h.1 hu1 hke1 s3e s4e d3 m9
      obtain ⟨hy1, hy2⟩ := d4 y rfl
      have g2 : y.2.2.2.2.2.2.1 = rPl w2 := congrArg (fun z => z.2.1) hy3
      rcases f4 with ⟨-, k0, rfl, rfl, rfl, rfl, rfl, rfl⟩ | ⟨k0, rfl, rfl, k1, k2⟩
      · rw [if_pos (by omega)] at ha0
        subst ha0
        have et : twoL L (some x) (some y) = (L ++ [x]) ++ [y] := if_pos (by omega)
        have el : (L ++ [x]).length = L.length + 1 := by simp
        refine ⟨if_pos (by omega), ?_, ?_⟩
        · rw [et]
          have i1 : LInv n kd em br np ea eb li rn (L ++ [x]) wp' wl' wf' wt' := by
            refine LInv_push h (WOk_new h.1 hu he hku hke hue m1 hx1 hx2 hx3) (by omega) ?_ ?_ ?_ ?_ ?_ ?_
            · rw [m5, e2, rPl_len]
            · intro j hj
              rw [e2] at hj ⊢
              rw [rPl_len] at hj
              exact m4 j hj
            · rw [m6, hx1]
            · rw [m7, hx2]
            · exact fun z hz => f2 z (Or.inl hz)
            · exact fun i hi => f3 i (by omega) (by omega)
          refine LInv_push i1 (WOk_new h.1 hu1 he1 hku1 hke1 hue1 m9 hy1 hy2 hy3) (by omega) ?_ ?_ ?_ ?_ (fun _ _ => rfl) (fun _ _ => ⟨rfl, rfl, rfl⟩)
          · rw [el, m11, g2, rPl_len]
          · intro j hj
            rw [g2] at hj ⊢
            rw [rPl_len] at hj
            rw [el]
            exact m10 j hj
          · rw [el, m12, hy1]
          · rw [el, m13, hy2]
        · rw [et]; simp
      · have hk : ¬ L.length + 2 ≤ 64 := fun q => k0 ⟨rfl, by omega⟩
        have et : twoL L (some x) (some y) = L := if_neg hk
        rw [et]
        refine ⟨?_, LInv_same h k1 k2, rfl⟩
        show (if L.length + 2 ≤ 64 then nI (L.length + 1) else -5) = -5
        exact if_neg hk
theorem ref2_0 {x y z w : Int32} (h : ref2 n kd em x y z w = 0) : refC n kd em x y = 0 ∧ refC n kd em z w = 0 := by
  unfold ref2 at h
  by_cases q : refC n kd em x y = 0
  · rw [if_pos q] at h; exact ⟨q, h⟩
  · rw [if_neg q] at h; exact absurd h q
end LE
set_option maxHeartbeats 4000000 in
set_option maxRecDepth 100000 in
theorem lc_6 {p : Program} {l : Launch} {e : Env} {s : State} {m : MethodId} {below : List Frame} {meth : Method} {c : Code} {g : va_G} {t : Nat → ClassId} {a bb : Nat → Nat} {b0 Ls : Nat} {xs : Nat → Int32} {A : Nat → Prop} (C0 : cX p m c code 4 s #[Value.ref b0] R_LW g classes (tyL t)) (hX : va_X b0 Ls xs s s.heap) (hbl : b0 < s.heap.size) (hbA : ¬ A b0) (hLs : Ls ≤ 2560) {i : Nat} (hi : 5 * i + 5 ≤ Ls) {ls : Array Slot} (hl : lv_has ls 4 [(0, .ref b0), (1, .ref (a 0)), (2, .ref (bb 0)), (3, .int (nI (5 * i)))]) {cells slots : Nat} (hcc : cells + 6 ≤ 600000) (hss : slots + 200 ≤ 7302250) {Q : State → Prop} {n : Nat} {kd : Nat → Nat} {em : Nat → Bool} {br : Nat → Bool} {ii : Nat → Int32} {oo : Nat → Int32} {np : Nat} {ea : Nat → Nat} {eb : Nat → Nat} {li : Nat → Nat} {rn : Nat → Bool} {sT : Nat → Bool} {sP : Nat → Bool} {ak : Nat} {ap : Nat → Nat} {af : Nat → Nat} {tt : Nat → Nat} {ac : Nat → Nat} {ct : Nat → Nat} {rp : Nat → Nat} {rt : Nat → Nat} {L : List Wy} {wp : Nat → Nat} {wl : Nat → Nat} {wf : Nat → Nat} {wt : Nat → Nat} {ct2 : Nat → Nat} {sT2 : Nat → Bool} {sP2 : Nat → Bool} {sa : Nat → Nat} {sb : Nat → Nat} {H : Heap} {locs : List Loc} (hI : LInv n kd em br np ea eb li rn L wp wl wf wt) (hB : wB g classes A s.heap (wW a t n kd em br ii oo np ea eb li rn (waL L) L.length sT sP ak ap af tt ac ct rp rt (mW bb t n kd em br ii oo np ea eb li rn wp wl wf wt L.length ct2 sT2 sP2 sa sb ([])) L) H locs) (K : ∀ (n : Nat) (kd : Nat → Nat) (em : Nat → Bool) (br : Nat → Bool) (ii : Nat → Int32) (oo : Nat → Int32) (np : Nat) (ea : Nat → Nat) (eb : Nat → Nat) (li : Nat → Nat) (rn : Nat → Bool) (sT : Nat → Bool) (sP : Nat → Bool) (ak : Nat) (ap : Nat → Nat) (af : Nat → Nat) (tt : Nat → Nat) (ac : Nat → Nat) (ct : Nat → Nat) (rp : Nat → Nat) (rt : Nat → Nat) (L : List Wy) (wp : Nat → Nat) (wl : Nat → Nat) (wf : Nat → Nat) (wt : Nat → Nat) (ct2 : Nat → Nat) (sT2 : Nat → Bool) (sP2 : Nat → Bool) (sa : Nat → Nat) (sb : Nat → Nat), LInv n kd em br np ea eb li rn L wp wl wf wt → ∀ (H : Heap) (locs : List Loc), wB g classes A s.heap (wW a t n kd em br ii oo np ea eb li rn (waL L) L.length sT sP ak ap af tt ac ct rp rt (mW bb t n kd em br ii oo np ea eb li rn wp wl wf wt L.length ct2 sT2 sP2 sa sb ([])) L) H locs → W p l e room_1 s m #[Value.ref b0] below meth c H locs (cells + 6) (slots + 200) Q (F0 m 652 ls [])) : W p l e room_1 s m #[Value.ref b0] below meth c H locs cells slots Q (F0 m 344 ls []) := by
  obtain ⟨⟨h1, h2, h3, h4, h5, h6, h7, h8, h9, h10⟩, g1, g2, g3⟩ := id hI
  by_cases hr : refC n kd em (xs (5 * i + 1)) (xs (5 * i + 2)) = 0
  · obtain ⟨u0, e0, p1, p2, p3, p4, p5, p6, p7⟩ := refC_ex h1 hr
    rw [p3, p4] at hr
    by_cases hf : L.length < 64
    · skip
      refine lv_aload_n C0.1 C0.2.1 d_law_344 rfl (lv_at hl 1 rfl) ?_
      refine lv_aload_n C0.1 C0.2.1 d_law_345 rfl (lv_at hl 0 rfl) ?_
      refine lv_iload_n C0.1 C0.2.1 d_law_346 rfl (lv_at hl 3 rfl) ?_
      refine lv_iconst (v := nI 1) C0.1 C0.2.1 d_law_347 (by decide) ?_
      refine lv_iadd C0.1 C0.2.1 d_law_348 ?_
      refine ti (show (nI (5 * i)) + (nI 1) = nI (5 * i + 1) from nI_add _ _) ?_
      refine sld C0 hX hbl hbA hB (show 5 * i + 1 < Ls by omega) (by omega) d_law_349 ?_
      refine lv_aload_n C0.1 C0.2.1 d_law_350 rfl (lv_at hl 0 rfl) ?_
      refine lv_iload_n C0.1 C0.2.1 d_law_351 rfl (lv_at hl 3 rfl) ?_
      refine lv_iconst (v := nI 2) C0.1 C0.2.1 d_law_352 (by decide) ?_
      refine lv_iadd C0.1 C0.2.1 d_law_353 ?_
      refine ti (show (nI (5 * i)) + (nI 2) = nI (5 * i + 2) from nI_add _ _) ?_
      refine sld C0 hX hbl hbA hB (show 5 * i + 2 < Ls by omega) (by omega) d_law_354 ?_
      refine cM (As := [.int (xs (5 * i + 1)), .int (xs (5 * i + 2))]) (rest := []) C0 (Mt.as (c_WS_way u0 e0 p1 p2 hr g1 h1 h2 h3 h4 h5 h6) (by rw [p3, p4])) (q_LW_43 C0.2.2.2.2.1 rfl rfl ⟨Nat.le_of_ble_eq_true rfl, Nat.le_of_ble_eq_true rfl⟩) (ci := 0) (q0 := 0) rfl rfl rfl hB hl.1 rfl rfl (Nat.le_of_ble_eq_true rfl) d_law_355 ⟨(show cells + 3 ≤ 600000 by omega), (show slots + 100 ≤ 7302250 by omega)⟩ (fun v_355 u_355 H locs hp_355 hB => ?_)
      obtain ⟨⟨sT9, sP9⟩, ⟨ak9, ap9, af9, tt9, ac9, ct9, rp9, rt9⟩, ox⟩ := u_355
      obtain ⟨rfl, q1, q2, q3, q4⟩ := hp_355
      have hB : wB g classes A s.heap (wW a t n kd em br ii oo np ea eb li rn (waL (if L.length < 64 then apx L ox else L)) ((if L.length < 64 then apx L ox else L).length) sT9 sP9 ak9 ap9 af9 tt9 ac9 ct9 rp9 rt9 (mW bb t n kd em br ii oo np ea eb li rn wp wl wf wt L.length ct2 sT2 sP2 sa sb ([])) (if L.length < 64 then apx L ox else L)) H locs := hB
      rw [if_pos hf] at hB
      have hB : wB g classes A s.heap (wW a t n kd em br ii oo np ea eb li rn (waL (apx L ox)) ((apx L ox).length) sT9 sP9 ak9 ap9 af9 tt9 ac9 ct9 rp9 rt9 (mW bb t n kd em br ii oo np ea eb li rn wp wl wf wt L.length ct2 sT2 sP2 sa sb ([])) (apx L ox)) H locs := hB
      refine W.eq (g2 := F0 m 358 ls [.int (wayR L.length ox)]) rfl ?_
      refine lv_aload_n C0.1 C0.2.1 d_law_358 rfl (lv_at hl 2 rfl) ?_
      refine lv_aload_n C0.1 C0.2.1 d_law_359 rfl (lv_at hl 0 rfl) ?_
      refine lv_iload_n C0.1 C0.2.1 d_law_360 rfl (lv_at hl 3 rfl) ?_
      refine lv_iconst (v := nI 1) C0.1 C0.2.1 d_law_361 (by decide) ?_
      refine lv_iadd C0.1 C0.2.1 d_law_362 ?_
      refine ti (show (nI (5 * i)) + (nI 1) = nI (5 * i + 1) from nI_add _ _) ?_
      refine sld C0 hX hbl hbA hB (show 5 * i + 1 < Ls by omega) (by omega) d_law_363 ?_
      refine lv_aload_n C0.1 C0.2.1 d_law_364 rfl (lv_at hl 0 rfl) ?_
      refine lv_iload_n C0.1 C0.2.1 d_law_365 rfl (lv_at hl 3 rfl) ?_
      refine lv_iconst (v := nI 2) C0.1 C0.2.1 d_law_366 (by decide) ?_
      refine lv_iadd C0.1 C0.2.1 d_law_367 ?_
      refine ti (show (nI (5 * i)) + (nI 2) = nI (5 * i + 2) from nI_add _ _) ?_
      refine sld C0 hX hbl hbA hB (show 5 * i + 2 < Ls by omega) (by omega) d_law_368 ?_
      have hM : wB g classes A s.heap (mW bb t n kd em br ii oo np ea eb li rn wp wl wf wt L.length ct2 sT2 sP2 sa sb ((wW a t n kd em br ii oo np ea eb li rn (waL (apx L ox)) ((apx L ox).length) sT9 sP9 ak9 ap9 af9 tt9 ac9 ct9 rp9 rt9 ([]) ([])) ++ wy_W t (apx L ox))) _ _ := wB.rot (a := (wW a t n kd em br ii oo np ea eb li rn (waL (apx L ox)) ((apx L ox).length) sT9 sP9 ak9 ap9 af9 tt9 ac9 ct9 rp9 rt9 ([]) ([]))) (b := (mW bb t n kd em br ii oo np ea eb li rn wp wl wf wt L.length ct2 sT2 sP2 sa sb ([]))) (y := wy_W t (apx L ox)) hB
      refine cM (As := [.int (xs (5 * i + 1)), .int (xs (5 * i + 2))]) (rest := [.int (wayR L.length ox)]) C0 (Mt.as (c_MO_way u0 e0 p1 p2 hr hf h7 h1 h2 h3 h4 h5 h6) (by rw [p3, p4])) (q_LW_47 C0.2.2.2.2.1 rfl rfl ⟨Nat.le_of_ble_eq_true rfl, Nat.le_of_ble_eq_true rfl⟩) (ci := 5) (q0 := 0) rfl rfl rfl hM hl.1 rfl rfl (Nat.le_of_ble_eq_true rfl) d_law_369 ⟨(show cells + 3 + 0 ≤ 600000 by omega), (show slots + 100 + 0 ≤ 7302250 by omega)⟩ (fun v_369 u_369 H locs hp_369 hB => ?_)
      obtain ⟨⟨sT8, sP8⟩, ⟨ct8, wp8, wl8, wf8, wt8⟩, ow⟩ := u_369
      obtain ⟨rfl, r1, r2, r3⟩ := hp_369
      have hM : wB g classes A s.heap (mW bb t n kd em br ii oo np ea eb li rn wp8 wl8 wf8 wt8 (if ow.isSome = true then L.length + 1 else L.length) ct8 sT8 sP8 sa sb ((wW a t n kd em br ii oo np ea eb li rn (waL (apx L ox)) ((apx L ox).length) sT9 sP9 ak9 ap9 af9 tt9 ac9 ct9 rp9 rt9 ([]) ([])) ++ wy_W t (apx L ox))) H locs := hB
      have hB : wB g classes A s.heap (wW a t n kd em br ii oo np ea eb li rn (waL (apx L ox)) ((apx L ox).length) sT9 sP9 ak9 ap9 af9 tt9 ac9 ct9 rp9 rt9 (mW bb t n kd em br ii oo np ea eb li rn wp8 wl8 wf8 wt8 (if ow.isSome = true then L.length + 1 else L.length) ct8 sT8 sP8 sa sb ([])) (apx L ox)) H locs := wB.rot (a := (mW bb t n kd em br ii oo np ea eb li rn wp8 wl8 wf8 wt8 (if ow.isSome = true then L.length + 1 else L.length) ct8 sT8 sP8 sa sb ([]))) (b := (wW a t n kd em br ii oo np ea eb li rn (waL (apx L ox)) ((apx L ox).length) sT9 sP9 ak9 ap9 af9 tt9 ac9 ct9 rp9 rt9 ([]) ([]))) (y := wy_W t (apx L ox)) hM
      refine W.eq (g2 := F0 m 372 ls [.int (if ow.isSome = true then nI L.length else -1), .int (wayR L.length ox)]) rfl ?_
      obtain ⟨z1, z2, z3⟩ := way_end hI hf p1 p2 p5 p6 p7 (fun v hv => (q1 v hv).trans (r1 v hv).symm) (fun v hv => (q2 v hv).trans (r2 v hv).symm) q3 q4 r3
      rw [z3] at hB
      refine lv_icmp_eq (tgt := 652) C0.1 C0.2.1 d_law_372 (by decide) (fun _ => ?_) (fun c_372 => ?_)
      · skip
        exact W.widen (by omega) (by omega) (K _ _ _ _ _ _ _ _ _ _ _ _ _ _ _ _ _ _ _ _ _ _ _ _ _ _ _ _ _ _ _ (z2) _ _ hB)
      · exact absurd (z1) c_372
    · skip
      refine lv_aload_n C0.1 C0.2.1 d_law_344 rfl (lv_at hl 1 rfl) ?_
      refine lv_aload_n C0.1 C0.2.1 d_law_345 rfl (lv_at hl 0 rfl) ?_
      refine lv_iload_n C0.1 C0.2.1 d_law_346 rfl (lv_at hl 3 rfl) ?_
      refine lv_iconst (v := nI 1) C0.1 C0.2.1 d_law_347 (by decide) ?_
      refine lv_iadd C0.1 C0.2.1 d_law_348 ?_
      refine ti (show (nI (5 * i)) + (nI 1) = nI (5 * i + 1) from nI_add _ _) ?_
      refine sld C0 hX hbl hbA hB (show 5 * i + 1 < Ls by omega) (by omega) d_law_349 ?_
      refine lv_aload_n C0.1 C0.2.1 d_law_350 rfl (lv_at hl 0 rfl) ?_
      refine lv_iload_n C0.1 C0.2.1 d_law_351 rfl (lv_at hl 3 rfl) ?_
      refine lv_iconst (v := nI 2) C0.1 C0.2.1 d_law_352 (by decide) ?_
      refine lv_iadd C0.1 C0.2.1 d_law_353 ?_
      refine ti (show (nI (5 * i)) + (nI 2) = nI (5 * i + 2) from nI_add _ _) ?_
      refine sld C0 hX hbl hbA hB (show 5 * i + 2 < Ls by omega) (by omega) d_law_354 ?_
      refine cM (As := [.int (xs (5 * i + 1)), .int (xs (5 * i + 2))]) (rest := []) C0 (Mt.as (c_WS_way u0 e0 p1 p2 hr g1 h1 h2 h3 h4 h5 h6) (by rw [p3, p4])) (q_LW_43 C0.2.2.2.2.1 rfl rfl ⟨Nat.le_of_ble_eq_true rfl, Nat.le_of_ble_eq_true rfl⟩) (ci := 0) (q0 := 0) rfl rfl rfl hB hl.1 rfl rfl (Nat.le_of_ble_eq_true rfl) d_law_355 ⟨(show cells + 3 ≤ 600000 by omega), (show slots + 100 ≤ 7302250 by omega)⟩ (fun v_355 u_355 H locs hp_355 hB => ?_)
      obtain ⟨⟨sT9, sP9⟩, ⟨ak9, ap9, af9, tt9, ac9, ct9, rp9, rt9⟩, ox⟩ := u_355
      obtain ⟨rfl, q1, q2, q3, q4⟩ := hp_355
      have hB : wB g classes A s.heap (wW a t n kd em br ii oo np ea eb li rn (waL (if L.length < 64 then apx L ox else L)) ((if L.length < 64 then apx L ox else L).length) sT9 sP9 ak9 ap9 af9 tt9 ac9 ct9 rp9 rt9 (mW bb t n kd em br ii oo np ea eb li rn wp wl wf wt L.length ct2 sT2 sP2 sa sb ([])) (if L.length < 64 then apx L ox else L)) H locs := hB
      rw [if_neg hf] at hB
      have hB : wB g classes A s.heap (wW a t n kd em br ii oo np ea eb li rn (waL L) L.length sT9 sP9 ak9 ap9 af9 tt9 ac9 ct9 rp9 rt9 (mW bb t n kd em br ii oo np ea eb li rn wp wl wf wt L.length ct2 sT2 sP2 sa sb ([])) L) H locs := hB
      refine W.eq (g2 := F0 m 358 ls [.int (wayR L.length ox)]) rfl ?_
      refine lv_aload_n C0.1 C0.2.1 d_law_358 rfl (lv_at hl 2 rfl) ?_
      refine lv_aload_n C0.1 C0.2.1 d_law_359 rfl (lv_at hl 0 rfl) ?_
      refine lv_iload_n C0.1 C0.2.1 d_law_360 rfl (lv_at hl 3 rfl) ?_
      refine lv_iconst (v := nI 1) C0.1 C0.2.1 d_law_361 (by decide) ?_
      refine lv_iadd C0.1 C0.2.1 d_law_362 ?_
      refine ti (show (nI (5 * i)) + (nI 1) = nI (5 * i + 1) from nI_add _ _) ?_
      refine sld C0 hX hbl hbA hB (show 5 * i + 1 < Ls by omega) (by omega) d_law_363 ?_
      refine lv_aload_n C0.1 C0.2.1 d_law_364 rfl (lv_at hl 0 rfl) ?_
      refine lv_iload_n C0.1 C0.2.1 d_law_365 rfl (lv_at hl 3 rfl) ?_
      refine lv_iconst (v := nI 2) C0.1 C0.2.1 d_law_366 (by decide) ?_
      refine lv_iadd C0.1 C0.2.1 d_law_367 ?_
      refine ti (show (nI (5 * i)) + (nI 2) = nI (5 * i + 2) from nI_add _ _) ?_
      refine sld C0 hX hbl hbA hB (show 5 * i + 2 < Ls by omega) (by omega) d_law_368 ?_
      have hM : wB g classes A s.heap (mW bb t n kd em br ii oo np ea eb li rn wp wl wf wt L.length ct2 sT2 sP2 sa sb ((wW a t n kd em br ii oo np ea eb li rn (waL L) L.length sT9 sP9 ak9 ap9 af9 tt9 ac9 ct9 rp9 rt9 ([]) ([])) ++ wy_W t L)) _ _ := wB.rot (a := (wW a t n kd em br ii oo np ea eb li rn (waL L) L.length sT9 sP9 ak9 ap9 af9 tt9 ac9 ct9 rp9 rt9 ([]) ([]))) (b := (mW bb t n kd em br ii oo np ea eb li rn wp wl wf wt L.length ct2 sT2 sP2 sa sb ([]))) (y := wy_W t L) hB
      refine cM (As := [.int (xs (5 * i + 1)), .int (xs (5 * i + 2))]) (rest := [.int (wayR L.length ox)]) C0 (Mt.as (c_MO_way_full u0 e0 p1 p2 hr (by omega) h1 h2 h3 h4 h5 h6) (by rw [p3, p4])) (q_LW_47 C0.2.2.2.2.1 rfl rfl ⟨Nat.le_of_ble_eq_true rfl, Nat.le_of_ble_eq_true rfl⟩) (ci := 5) (q0 := 0) rfl rfl rfl hM hl.1 rfl rfl (Nat.le_of_ble_eq_true rfl) d_law_369 ⟨(show cells + 3 + 0 ≤ 600000 by omega), (show slots + 100 + 0 ≤ 7302250 by omega)⟩ (fun v_369 u_369 H locs hp_369 hB => ?_)
      obtain ⟨⟨sT8, sP8⟩, ct8, ob⟩ := u_369
      obtain ⟨rfl, r1, r2, r3⟩ := hp_369
      have hM : wB g classes A s.heap (mW bb t n kd em br ii oo np ea eb li rn wp wl wf wt L.length ct8 sT8 sP8 sa sb ((wW a t n kd em br ii oo np ea eb li rn (waL L) L.length sT9 sP9 ak9 ap9 af9 tt9 ac9 ct9 rp9 rt9 ([]) ([])) ++ wy_W t L)) H locs := hB
      have hB : wB g classes A s.heap (wW a t n kd em br ii oo np ea eb li rn (waL L) L.length sT9 sP9 ak9 ap9 af9 tt9 ac9 ct9 rp9 rt9 (mW bb t n kd em br ii oo np ea eb li rn wp wl wf wt L.length ct8 sT8 sP8 sa sb ([])) L) H locs := wB.rot (a := (mW bb t n kd em br ii oo np ea eb li rn wp wl wf wt L.length ct8 sT8 sP8 sa sb ([]))) (b := (wW a t n kd em br ii oo np ea eb li rn (waL L) L.length sT9 sP9 ak9 ap9 af9 tt9 ac9 ct9 rp9 rt9 ([]) ([]))) (y := wy_W t L) hM
      refine W.eq (g2 := F0 m 372 ls [.int (if ob = true then -5 else -1), .int (wayR L.length ox)]) rfl ?_
      refine lv_icmp_eq (tgt := 652) C0.1 C0.2.1 d_law_372 (by decide) (fun _ => ?_) (fun c_372 => ?_)
      · skip
        exact W.widen (by omega) (by omega) (K _ _ _ _ _ _ _ _ _ _ _ _ _ _ _ _ _ _ _ _ _ _ _ _ _ _ _ _ _ _ _ (hI) _ _ hB)
      · exact absurd (way_full hI.1 (by omega) p1 p2 p6 p7 (fun v hv => (q1 v hv).trans (r1 v hv).symm) (fun v hv => (q2 v hv).trans (r2 v hv).symm) q3 r3) c_372
  · skip
    refine lv_aload_n C0.1 C0.2.1 d_law_344 rfl (lv_at hl 1 rfl) ?_
    refine lv_aload_n C0.1 C0.2.1 d_law_345 rfl (lv_at hl 0 rfl) ?_
    refine lv_iload_n C0.1 C0.2.1 d_law_346 rfl (lv_at hl 3 rfl) ?_
    refine lv_iconst (v := nI 1) C0.1 C0.2.1 d_law_347 (by decide) ?_
    refine lv_iadd C0.1 C0.2.1 d_law_348 ?_
    refine ti (show (nI (5 * i)) + (nI 1) = nI (5 * i + 1) from nI_add _ _) ?_
    refine sld C0 hX hbl hbA hB (show 5 * i + 1 < Ls by omega) (by omega) d_law_349 ?_
    refine lv_aload_n C0.1 C0.2.1 d_law_350 rfl (lv_at hl 0 rfl) ?_
    refine lv_iload_n C0.1 C0.2.1 d_law_351 rfl (lv_at hl 3 rfl) ?_
    refine lv_iconst (v := nI 2) C0.1 C0.2.1 d_law_352 (by decide) ?_
    refine lv_iadd C0.1 C0.2.1 d_law_353 ?_
    refine ti (show (nI (5 * i)) + (nI 2) = nI (5 * i + 2) from nI_add _ _) ?_
    refine sld C0 hX hbl hbA hB (show 5 * i + 2 < Ls by omega) (by omega) d_law_354 ?_
    refine cR (As := [.int (xs (5 * i + 1)), .int (xs (5 * i + 2))]) (rest := []) C0 (c_WS_way_no _ _ h1 h3 hr) (q_LW_43 C0.2.2.2.2.1 rfl rfl ⟨Nat.le_of_ble_eq_true rfl, Nat.le_of_ble_eq_true rfl⟩) (ci := 0) (q0 := 0) rfl rfl rfl hB.1 hl.1 rfl rfl (Nat.le_of_ble_eq_true rfl) d_law_355 ⟨(show cells ≤ 600000 by omega), (show slots ≤ 7302250 by omega)⟩ ?_
    refine W.eq (g2 := F0 m 358 ls [.int (refC n kd em (xs (5 * i + 1)) (xs (5 * i + 2)))]) rfl ?_
    refine lv_aload_n C0.1 C0.2.1 d_law_358 rfl (lv_at hl 2 rfl) ?_
    refine lv_aload_n C0.1 C0.2.1 d_law_359 rfl (lv_at hl 0 rfl) ?_
    refine lv_iload_n C0.1 C0.2.1 d_law_360 rfl (lv_at hl 3 rfl) ?_
    refine lv_iconst (v := nI 1) C0.1 C0.2.1 d_law_361 (by decide) ?_
    refine lv_iadd C0.1 C0.2.1 d_law_362 ?_
    refine ti (show (nI (5 * i)) + (nI 1) = nI (5 * i + 1) from nI_add _ _) ?_
    refine sld C0 hX hbl hbA hB (show 5 * i + 1 < Ls by omega) (by omega) d_law_363 ?_
    refine lv_aload_n C0.1 C0.2.1 d_law_364 rfl (lv_at hl 0 rfl) ?_
    refine lv_iload_n C0.1 C0.2.1 d_law_365 rfl (lv_at hl 3 rfl) ?_
    refine lv_iconst (v := nI 2) C0.1 C0.2.1 d_law_366 (by decide) ?_
    refine lv_iadd C0.1 C0.2.1 d_law_367 ?_
    refine ti (show (nI (5 * i)) + (nI 2) = nI (5 * i + 2) from nI_add _ _) ?_
    refine sld C0 hX hbl hbA hB (show 5 * i + 2 < Ls by omega) (by omega) d_law_368 ?_
    have hM : wB g classes A s.heap (mW bb t n kd em br ii oo np ea eb li rn wp wl wf wt L.length ct2 sT2 sP2 sa sb ((wW a t n kd em br ii oo np ea eb li rn (waL L) L.length sT sP ak ap af tt ac ct rp rt ([]) ([])) ++ wy_W t L)) _ _ := wB.rot (a := (wW a t n kd em br ii oo np ea eb li rn (waL L) L.length sT sP ak ap af tt ac ct rp rt ([]) ([]))) (b := (mW bb t n kd em br ii oo np ea eb li rn wp wl wf wt L.length ct2 sT2 sP2 sa sb ([]))) (y := wy_W t L) hB
    refine cR (As := [.int (xs (5 * i + 1)), .int (xs (5 * i + 2))]) (rest := [.int (refC n kd em (xs (5 * i + 1)) (xs (5 * i + 2)))]) C0 (c_MO_way_no _ _ h1 h3 hr) (q_LW_47 C0.2.2.2.2.1 rfl rfl ⟨Nat.le_of_ble_eq_true rfl, Nat.le_of_ble_eq_true rfl⟩) (ci := 5) (q0 := 0) rfl rfl rfl hM.1 hl.1 rfl rfl (Nat.le_of_ble_eq_true rfl) d_law_369 ⟨(show cells ≤ 600000 by omega), (show slots ≤ 7302250 by omega)⟩ ?_
    refine W.eq (g2 := F0 m 372 ls [.int (refC n kd em (xs (5 * i + 1)) (xs (5 * i + 2))), .int (refC n kd em (xs (5 * i + 1)) (xs (5 * i + 2)))]) rfl ?_
    refine lv_icmp_eq (tgt := 652) C0.1 C0.2.1 d_law_372 (by decide) (fun _ => ?_) (fun c_372 => ?_)
    · skip
      exact W.widen (by omega) (by omega) (K _ _ _ _ _ _ _ _ _ _ _ _ _ _ _ _ _ _ _ _ _ _ _ _ _ _ _ _ _ _ _ (hI) _ _ hB)
    · exact absurd (rfl) c_372
set_option maxHeartbeats 4000000 in
set_option maxRecDepth 100000 in
theorem lc_10 {p : Program} {l : Launch} {e : Env} {s : State} {m : MethodId} {below : List Frame} {meth : Method} {c : Code} {g : va_G} {t : Nat → ClassId} {a bb : Nat → Nat} {b0 Ls : Nat} {xs : Nat → Int32} {A : Nat → Prop} (C0 : cX p m c code 4 s #[Value.ref b0] R_LW g classes (tyL t)) (hX : va_X b0 Ls xs s s.heap) (hbl : b0 < s.heap.size) (hbA : ¬ A b0) (hLs : Ls ≤ 2560) {i : Nat} (hi : 5 * i + 5 ≤ Ls) {ls : Array Slot} (hl : lv_has ls 4 [(0, .ref b0), (1, .ref (a 0)), (2, .ref (bb 0)), (3, .int (nI (5 * i)))]) {cells slots : Nat} (hcc : cells + 6 ≤ 600000) (hss : slots + 200 ≤ 7302250) {Q : State → Prop} {n : Nat} {kd : Nat → Nat} {em : Nat → Bool} {br : Nat → Bool} {ii : Nat → Int32} {oo : Nat → Int32} {np : Nat} {ea : Nat → Nat} {eb : Nat → Nat} {li : Nat → Nat} {rn : Nat → Bool} {sT : Nat → Bool} {sP : Nat → Bool} {ak : Nat} {ap : Nat → Nat} {af : Nat → Nat} {tt : Nat → Nat} {ac : Nat → Nat} {ct : Nat → Nat} {rp : Nat → Nat} {rt : Nat → Nat} {L : List Wy} {wp : Nat → Nat} {wl : Nat → Nat} {wf : Nat → Nat} {wt : Nat → Nat} {ct2 : Nat → Nat} {sT2 : Nat → Bool} {sP2 : Nat → Bool} {sa : Nat → Nat} {sb : Nat → Nat} {H : Heap} {locs : List Loc} (hI : LInv n kd em br np ea eb li rn L wp wl wf wt) (hB : wB g classes A s.heap (wW a t n kd em br ii oo np ea eb li rn (waL L) L.length sT sP ak ap af tt ac ct rp rt (mW bb t n kd em br ii oo np ea eb li rn wp wl wf wt L.length ct2 sT2 sP2 sa sb ([])) L) H locs) (K : ∀ (n : Nat) (kd : Nat → Nat) (em : Nat → Bool) (br : Nat → Bool) (ii : Nat → Int32) (oo : Nat → Int32) (np : Nat) (ea : Nat → Nat) (eb : Nat → Nat) (li : Nat → Nat) (rn : Nat → Bool) (sT : Nat → Bool) (sP : Nat → Bool) (ak : Nat) (ap : Nat → Nat) (af : Nat → Nat) (tt : Nat → Nat) (ac : Nat → Nat) (ct : Nat → Nat) (rp : Nat → Nat) (rt : Nat → Nat) (L : List Wy) (wp : Nat → Nat) (wl : Nat → Nat) (wf : Nat → Nat) (wt : Nat → Nat) (ct2 : Nat → Nat) (sT2 : Nat → Bool) (sP2 : Nat → Bool) (sa : Nat → Nat) (sb : Nat → Nat), LInv n kd em br np ea eb li rn L wp wl wf wt → ∀ (H : Heap) (locs : List Loc), wB g classes A s.heap (wW a t n kd em br ii oo np ea eb li rn (waL L) L.length sT sP ak ap af tt ac ct rp rt (mW bb t n kd em br ii oo np ea eb li rn wp wl wf wt L.length ct2 sT2 sP2 sa sb ([])) L) H locs → W p l e room_1 s m #[Value.ref b0] below meth c H locs (cells + 6) (slots + 200) Q (F0 m 652 ls [])) : W p l e room_1 s m #[Value.ref b0] below meth c H locs cells slots Q (F0 m 467 ls []) := by
  obtain ⟨⟨h1, h2, h3, h4, h5, h6, h7, h8, h9, h10⟩, g1, g2, g3⟩ := id hI
  by_cases hr : hasB L.length (xs (5 * i + 1)) = true
  · obtain ⟨j0, pa, ta, oa, fr, to0, lit, pl, tl, p1, p2, p3⟩ := Wy_at g1 hr
    obtain ⟨a1, a2, a3, a4, a5, a6, a7, a8, a9, a10, a11, a12, a13⟩ := g2 _ (List.mem_of_getElem? p3)
    obtain ⟨b1, b2, b3, b4⟩ := g3 _ _ p3
    have p4 : waL L j0 = some oa := waL_at p3
    dsimp only at a1 a2 a3 a4 a5 a6 a7 a8 a9 a10 a11 a12 a13 b1 b2 b3 b4
    by_cases hq : hasB pl.length (xs (5 * i + 2)) = true
    · obtain ⟨k0, n1, n2⟩ := hasB_ex (by omega) hq
      by_cases hf : L.length < 64
      · skip
        refine lv_aload_n C0.1 C0.2.1 d_law_467 rfl (lv_at hl 1 rfl) ?_
        refine lv_aload_n C0.1 C0.2.1 d_law_468 rfl (lv_at hl 0 rfl) ?_
        refine lv_iload_n C0.1 C0.2.1 d_law_469 rfl (lv_at hl 3 rfl) ?_
        refine lv_iconst (v := nI 1) C0.1 C0.2.1 d_law_470 (by decide) ?_
        refine lv_iadd C0.1 C0.2.1 d_law_471 ?_
        refine ti (show (nI (5 * i)) + (nI 1) = nI (5 * i + 1) from nI_add _ _) ?_
        refine sld C0 hX hbl hbA hB (show 5 * i + 1 < Ls by omega) (by omega) d_law_472 ?_
        refine lv_aload_n C0.1 C0.2.1 d_law_473 rfl (lv_at hl 0 rfl) ?_
        refine lv_iload_n C0.1 C0.2.1 d_law_474 rfl (lv_at hl 3 rfl) ?_
        refine lv_iconst (v := nI 2) C0.1 C0.2.1 d_law_475 (by decide) ?_
        refine lv_iadd C0.1 C0.2.1 d_law_476 ?_
        refine ti (show (nI (5 * i)) + (nI 2) = nI (5 * i + 2) from nI_add _ _) ?_
        refine sld C0 hX hbl hbA hB (show 5 * i + 2 < Ls by omega) (by omega) d_law_477 ?_
        refine cM (As := [.int (xs (5 * i + 1)), .int (xs (5 * i + 2))]) (rest := []) C0 (Mt.as (c_WS_other j0 pa ta oa fr to0 lit pl tl p1 p3 (by omega) k0 n1 a1 a9 a10 g1 h1 h2 h3 h4 h5 h6) (by rw [p2, n2])) (q_LW_61 C0.2.2.2.2.1 rfl rfl ⟨Nat.le_of_ble_eq_true rfl, Nat.le_of_ble_eq_true rfl⟩) (ci := 0) (q0 := 0) rfl rfl rfl hB hl.1 rfl rfl (Nat.le_of_ble_eq_true rfl) d_law_478 ⟨(show cells + 3 ≤ 600000 by omega), (show slots + 100 ≤ 7302250 by omega)⟩ (fun v_478 u_478 H locs hp_478 hB => ?_)
        obtain ⟨⟨sT9, sP9⟩, ⟨ak9, ap9, af9, tt9, ac9, ct9, rp9, rt9⟩, ox⟩ := u_478
        obtain ⟨rfl, q1, q2, q3, q4⟩ := hp_478
        have hB : wB g classes A s.heap (wW a t n kd em br ii oo np ea eb li rn (waL (if L.length < 64 then apx L ox else L)) ((if L.length < 64 then apx L ox else L).length) sT9 sP9 ak9 ap9 af9 tt9 ac9 ct9 rp9 rt9 (mW bb t n kd em br ii oo np ea eb li rn wp wl wf wt L.length ct2 sT2 sP2 sa sb ([])) (if L.length < 64 then apx L ox else L)) H locs := hB
        rw [if_pos hf] at hB
        have hB : wB g classes A s.heap (wW a t n kd em br ii oo np ea eb li rn (waL (apx L ox)) ((apx L ox).length) sT9 sP9 ak9 ap9 af9 tt9 ac9 ct9 rp9 rt9 (mW bb t n kd em br ii oo np ea eb li rn wp wl wf wt L.length ct2 sT2 sP2 sa sb ([])) (apx L ox)) H locs := hB
        refine W.eq (g2 := F0 m 481 ls [.int (wayR L.length ox)]) rfl ?_
        refine lv_aload_n C0.1 C0.2.1 d_law_481 rfl (lv_at hl 2 rfl) ?_
        refine lv_aload_n C0.1 C0.2.1 d_law_482 rfl (lv_at hl 0 rfl) ?_
        refine lv_iload_n C0.1 C0.2.1 d_law_483 rfl (lv_at hl 3 rfl) ?_
        refine lv_iconst (v := nI 1) C0.1 C0.2.1 d_law_484 (by decide) ?_
        refine lv_iadd C0.1 C0.2.1 d_law_485 ?_
        refine ti (show (nI (5 * i)) + (nI 1) = nI (5 * i + 1) from nI_add _ _) ?_
        refine sld C0 hX hbl hbA hB (show 5 * i + 1 < Ls by omega) (by omega) d_law_486 ?_
        refine lv_aload_n C0.1 C0.2.1 d_law_487 rfl (lv_at hl 0 rfl) ?_
        refine lv_iload_n C0.1 C0.2.1 d_law_488 rfl (lv_at hl 3 rfl) ?_
        refine lv_iconst (v := nI 2) C0.1 C0.2.1 d_law_489 (by decide) ?_
        refine lv_iadd C0.1 C0.2.1 d_law_490 ?_
        refine ti (show (nI (5 * i)) + (nI 2) = nI (5 * i + 2) from nI_add _ _) ?_
        refine sld C0 hX hbl hbA hB (show 5 * i + 2 < Ls by omega) (by omega) d_law_491 ?_
        have hM : wB g classes A s.heap (mW bb t n kd em br ii oo np ea eb li rn wp wl wf wt L.length ct2 sT2 sP2 sa sb ((wW a t n kd em br ii oo np ea eb li rn (waL (apx L ox)) ((apx L ox).length) sT9 sP9 ak9 ap9 af9 tt9 ac9 ct9 rp9 rt9 ([]) ([])) ++ wy_W t (apx L ox))) _ _ := wB.rot (a := (wW a t n kd em br ii oo np ea eb li rn (waL (apx L ox)) ((apx L ox).length) sT9 sP9 ak9 ap9 af9 tt9 ac9 ct9 rp9 rt9 ([]) ([]))) (b := (mW bb t n kd em br ii oo np ea eb li rn wp wl wf wt L.length ct2 sT2 sP2 sa sb ([]))) (y := wy_W t (apx L ox)) hB
        refine cM (As := [.int (xs (5 * i + 1)), .int (xs (5 * i + 2))]) (rest := [.int (wayR L.length ox)]) C0 (Mt.as (c_MO_other j0 fr to0 pl (by omega) b1 b2 b3 b4 a1 a3 p1 k0 n1 a9 a10 hf h7 h1 h2 h3 h4 h5 h6) (by rw [p2, n2])) (q_LW_64 C0.2.2.2.2.1 rfl rfl ⟨Nat.le_of_ble_eq_true rfl, Nat.le_of_ble_eq_true rfl⟩) (ci := 5) (q0 := 0) rfl rfl rfl hM hl.1 rfl rfl (Nat.le_of_ble_eq_true rfl) d_law_492 ⟨(show cells + 3 + 0 ≤ 600000 by omega), (show slots + 100 + 0 ≤ 7302250 by omega)⟩ (fun v_492 u_492 H locs hp_492 hB => ?_)
        obtain ⟨⟨sT8, sP8⟩, ⟨ct8, wp8, wl8, wf8, wt8⟩, ow⟩ := u_492
        obtain ⟨rfl, r1, r2, r3⟩ := hp_492
        have hM : wB g classes A s.heap (mW bb t n kd em br ii oo np ea eb li rn wp8 wl8 wf8 wt8 (if ow.isSome = true then L.length + 1 else L.length) ct8 sT8 sP8 sa sb ((wW a t n kd em br ii oo np ea eb li rn (waL (apx L ox)) ((apx L ox).length) sT9 sP9 ak9 ap9 af9 tt9 ac9 ct9 rp9 rt9 ([]) ([])) ++ wy_W t (apx L ox))) H locs := hB
        have hB : wB g classes A s.heap (wW a t n kd em br ii oo np ea eb li rn (waL (apx L ox)) ((apx L ox).length) sT9 sP9 ak9 ap9 af9 tt9 ac9 ct9 rp9 rt9 (mW bb t n kd em br ii oo np ea eb li rn wp8 wl8 wf8 wt8 (if ow.isSome = true then L.length + 1 else L.length) ct8 sT8 sP8 sa sb ([])) (apx L ox)) H locs := wB.rot (a := (mW bb t n kd em br ii oo np ea eb li rn wp8 wl8 wf8 wt8 (if ow.isSome = true then L.length + 1 else L.length) ct8 sT8 sP8 sa sb ([]))) (b := (wW a t n kd em br ii oo np ea eb li rn (waL (apx L ox)) ((apx L ox).length) sT9 sP9 ak9 ap9 af9 tt9 ac9 ct9 rp9 rt9 ([]) ([]))) (y := wy_W t (apx L ox)) hM
        refine W.eq (g2 := F0 m 495 ls [.int (if ow.isSome = true then nI L.length else -1), .int (wayR L.length ox)]) rfl ?_
        obtain ⟨z1, z2, z3⟩ := way_end hI hf a9 a10 a11 a12 a13 (fun v hv => (q1 v hv).trans (r1 v hv).symm) (fun v hv => (q2 v hv).trans (r2 v hv).symm) q3 q4 r3
        rw [z3] at hB
        refine lv_icmp_eq (tgt := 652) C0.1 C0.2.1 d_law_495 (by decide) (fun _ => ?_) (fun c_495 => ?_)
        · skip
          exact W.widen (by omega) (by omega) (K _ _ _ _ _ _ _ _ _ _ _ _ _ _ _ _ _ _ _ _ _ _ _ _ _ _ _ _ _ _ _ (z2) _ _ hB)
        · exact absurd (z1) c_495
      · skip
        refine lv_aload_n C0.1 C0.2.1 d_law_467 rfl (lv_at hl 1 rfl) ?_
        refine lv_aload_n C0.1 C0.2.1 d_law_468 rfl (lv_at hl 0 rfl) ?_
        refine lv_iload_n C0.1 C0.2.1 d_law_469 rfl (lv_at hl 3 rfl) ?_
        refine lv_iconst (v := nI 1) C0.1 C0.2.1 d_law_470 (by decide) ?_
        refine lv_iadd C0.1 C0.2.1 d_law_471 ?_
        refine ti (show (nI (5 * i)) + (nI 1) = nI (5 * i + 1) from nI_add _ _) ?_
        refine sld C0 hX hbl hbA hB (show 5 * i + 1 < Ls by omega) (by omega) d_law_472 ?_
        refine lv_aload_n C0.1 C0.2.1 d_law_473 rfl (lv_at hl 0 rfl) ?_
        refine lv_iload_n C0.1 C0.2.1 d_law_474 rfl (lv_at hl 3 rfl) ?_
        refine lv_iconst (v := nI 2) C0.1 C0.2.1 d_law_475 (by decide) ?_
        refine lv_iadd C0.1 C0.2.1 d_law_476 ?_
        refine ti (show (nI (5 * i)) + (nI 2) = nI (5 * i + 2) from nI_add _ _) ?_
        refine sld C0 hX hbl hbA hB (show 5 * i + 2 < Ls by omega) (by omega) d_law_477 ?_
        refine cM (As := [.int (xs (5 * i + 1)), .int (xs (5 * i + 2))]) (rest := []) C0 (Mt.as (c_WS_other j0 pa ta oa fr to0 lit pl tl p1 p3 (by omega) k0 n1 a1 a9 a10 g1 h1 h2 h3 h4 h5 h6) (by rw [p2, n2])) (q_LW_61 C0.2.2.2.2.1 rfl rfl ⟨Nat.le_of_ble_eq_true rfl, Nat.le_of_ble_eq_true rfl⟩) (ci := 0) (q0 := 0) rfl rfl rfl hB hl.1 rfl rfl (Nat.le_of_ble_eq_true rfl) d_law_478 ⟨(show cells + 3 ≤ 600000 by omega), (show slots + 100 ≤ 7302250 by omega)⟩ (fun v_478 u_478 H locs hp_478 hB => ?_)
        obtain ⟨⟨sT9, sP9⟩, ⟨ak9, ap9, af9, tt9, ac9, ct9, rp9, rt9⟩, ox⟩ := u_478
        obtain ⟨rfl, q1, q2, q3, q4⟩ := hp_478
        have hB : wB g classes A s.heap (wW a t n kd em br ii oo np ea eb li rn (waL (if L.length < 64 then apx L ox else L)) ((if L.length < 64 then apx L ox else L).length) sT9 sP9 ak9 ap9 af9 tt9 ac9 ct9 rp9 rt9 (mW bb t n kd em br ii oo np ea eb li rn wp wl wf wt L.length ct2 sT2 sP2 sa sb ([])) (if L.length < 64 then apx L ox else L)) H locs := hB
        rw [if_neg hf] at hB
        have hB : wB g classes A s.heap (wW a t n kd em br ii oo np ea eb li rn (waL L) L.length sT9 sP9 ak9 ap9 af9 tt9 ac9 ct9 rp9 rt9 (mW bb t n kd em br ii oo np ea eb li rn wp wl wf wt L.length ct2 sT2 sP2 sa sb ([])) L) H locs := hB
        refine W.eq (g2 := F0 m 481 ls [.int (wayR L.length ox)]) rfl ?_
        refine lv_aload_n C0.1 C0.2.1 d_law_481 rfl (lv_at hl 2 rfl) ?_
        refine lv_aload_n C0.1 C0.2.1 d_law_482 rfl (lv_at hl 0 rfl) ?_
        refine lv_iload_n C0.1 C0.2.1 d_law_483 rfl (lv_at hl 3 rfl) ?_
        refine lv_iconst (v := nI 1) C0.1 C0.2.1 d_law_484 (by decide) ?_
        refine lv_iadd C0.1 C0.2.1 d_law_485 ?_
        refine ti (show (nI (5 * i)) + (nI 1) = nI (5 * i + 1) from nI_add _ _) ?_
        refine sld C0 hX hbl hbA hB (show 5 * i + 1 < Ls by omega) (by omega) d_law_486 ?_
        refine lv_aload_n C0.1 C0.2.1 d_law_487 rfl (lv_at hl 0 rfl) ?_
        refine lv_iload_n C0.1 C0.2.1 d_law_488 rfl (lv_at hl 3 rfl) ?_
        refine lv_iconst (v := nI 2) C0.1 C0.2.1 d_law_489 (by decide) ?_
        refine lv_iadd C0.1 C0.2.1 d_law_490 ?_
        refine ti (show (nI (5 * i)) + (nI 2) = nI (5 * i + 2) from nI_add _ _) ?_
        refine sld C0 hX hbl hbA hB (show 5 * i + 2 < Ls by omega) (by omega) d_law_491 ?_
        have hM : wB g classes A s.heap (mW bb t n kd em br ii oo np ea eb li rn wp wl wf wt L.length ct2 sT2 sP2 sa sb ((wW a t n kd em br ii oo np ea eb li rn (waL L) L.length sT9 sP9 ak9 ap9 af9 tt9 ac9 ct9 rp9 rt9 ([]) ([])) ++ wy_W t L)) _ _ := wB.rot (a := (wW a t n kd em br ii oo np ea eb li rn (waL L) L.length sT9 sP9 ak9 ap9 af9 tt9 ac9 ct9 rp9 rt9 ([]) ([]))) (b := (mW bb t n kd em br ii oo np ea eb li rn wp wl wf wt L.length ct2 sT2 sP2 sa sb ([]))) (y := wy_W t L) hB
        refine cM (As := [.int (xs (5 * i + 1)), .int (xs (5 * i + 2))]) (rest := [.int (wayR L.length ox)]) C0 (Mt.as (c_MO_other_full j0 fr to0 pl (by omega) b1 b2 b3 b4 a1 a3 p1 k0 n1 a9 a10 (by omega) h1 h2 h3 h4 h5 h6) (by rw [p2, n2])) (q_LW_64 C0.2.2.2.2.1 rfl rfl ⟨Nat.le_of_ble_eq_true rfl, Nat.le_of_ble_eq_true rfl⟩) (ci := 5) (q0 := 0) rfl rfl rfl hM hl.1 rfl rfl (Nat.le_of_ble_eq_true rfl) d_law_492 ⟨(show cells + 3 + 0 ≤ 600000 by omega), (show slots + 100 + 0 ≤ 7302250 by omega)⟩ (fun v_492 u_492 H locs hp_492 hB => ?_)
        obtain ⟨⟨sT8, sP8⟩, ct8, ob⟩ := u_492
        obtain ⟨rfl, r1, r2, r3⟩ := hp_492
        have hM : wB g classes A s.heap (mW bb t n kd em br ii oo np ea eb li rn wp wl wf wt L.length ct8 sT8 sP8 sa sb ((wW a t n kd em br ii oo np ea eb li rn (waL L) L.length sT9 sP9 ak9 ap9 af9 tt9 ac9 ct9 rp9 rt9 ([]) ([])) ++ wy_W t L)) H locs := hB
        have hB : wB g classes A s.heap (wW a t n kd em br ii oo np ea eb li rn (waL L) L.length sT9 sP9 ak9 ap9 af9 tt9 ac9 ct9 rp9 rt9 (mW bb t n kd em br ii oo np ea eb li rn wp wl wf wt L.length ct8 sT8 sP8 sa sb ([])) L) H locs := wB.rot (a := (mW bb t n kd em br ii oo np ea eb li rn wp wl wf wt L.length ct8 sT8 sP8 sa sb ([]))) (b := (wW a t n kd em br ii oo np ea eb li rn (waL L) L.length sT9 sP9 ak9 ap9 af9 tt9 ac9 ct9 rp9 rt9 ([]) ([]))) (y := wy_W t L) hM
        refine W.eq (g2 := F0 m 495 ls [.int (if ob = true then -5 else -1), .int (wayR L.length ox)]) rfl ?_
        refine lv_icmp_eq (tgt := 652) C0.1 C0.2.1 d_law_495 (by decide) (fun _ => ?_) (fun c_495 => ?_)
        · skip
          exact W.widen (by omega) (by omega) (K _ _ _ _ _ _ _ _ _ _ _ _ _ _ _ _ _ _ _ _ _ _ _ _ _ _ _ _ _ _ _ (hI) _ _ hB)
        · exact absurd (way_full hI.1 (by omega) a9 a10 a12 a13 (fun v hv => (q1 v hv).trans (r1 v hv).symm) (fun v hv => (q2 v hv).trans (r2 v hv).symm) q3 r3) c_495
    · have hq := Bool.eq_false_iff.mpr hq
      refine lv_aload_n C0.1 C0.2.1 d_law_467 rfl (lv_at hl 1 rfl) ?_
      refine lv_aload_n C0.1 C0.2.1 d_law_468 rfl (lv_at hl 0 rfl) ?_
      refine lv_iload_n C0.1 C0.2.1 d_law_469 rfl (lv_at hl 3 rfl) ?_
      refine lv_iconst (v := nI 1) C0.1 C0.2.1 d_law_470 (by decide) ?_
      refine lv_iadd C0.1 C0.2.1 d_law_471 ?_
      refine ti (show (nI (5 * i)) + (nI 1) = nI (5 * i + 1) from nI_add _ _) ?_
      refine sld C0 hX hbl hbA hB (show 5 * i + 1 < Ls by omega) (by omega) d_law_472 ?_
      refine lv_aload_n C0.1 C0.2.1 d_law_473 rfl (lv_at hl 0 rfl) ?_
      refine lv_iload_n C0.1 C0.2.1 d_law_474 rfl (lv_at hl 3 rfl) ?_
      refine lv_iconst (v := nI 2) C0.1 C0.2.1 d_law_475 (by decide) ?_
      refine lv_iadd C0.1 C0.2.1 d_law_476 ?_
      refine ti (show (nI (5 * i)) + (nI 2) = nI (5 * i + 2) from nI_add _ _) ?_
      refine sld C0 hX hbl hbA hB (show 5 * i + 2 < Ls by omega) (by omega) d_law_477 ?_
      refine cR (As := [.int (xs (5 * i + 1)), .int (xs (5 * i + 2))]) (rest := []) C0 (Rd.as (c_WS_other_out j0 pa ta oa fr to0 lit pl tl g1 p1 p4 p3 (by omega) (by omega) _ hq) (by rw [p2])) (q_LW_61 C0.2.2.2.2.1 rfl rfl ⟨Nat.le_of_ble_eq_true rfl, Nat.le_of_ble_eq_true rfl⟩) (ci := 0) (q0 := 0) rfl rfl rfl hB.1 hl.1 rfl rfl (Nat.le_of_ble_eq_true rfl) d_law_478 ⟨(show cells ≤ 600000 by omega), (show slots ≤ 7302250 by omega)⟩ ?_
      refine W.eq (g2 := F0 m 481 ls [.int (-1)]) rfl ?_
      refine lv_aload_n C0.1 C0.2.1 d_law_481 rfl (lv_at hl 2 rfl) ?_
      refine lv_aload_n C0.1 C0.2.1 d_law_482 rfl (lv_at hl 0 rfl) ?_
      refine lv_iload_n C0.1 C0.2.1 d_law_483 rfl (lv_at hl 3 rfl) ?_
      refine lv_iconst (v := nI 1) C0.1 C0.2.1 d_law_484 (by decide) ?_
      refine lv_iadd C0.1 C0.2.1 d_law_485 ?_
      refine ti (show (nI (5 * i)) + (nI 1) = nI (5 * i + 1) from nI_add _ _) ?_
      refine sld C0 hX hbl hbA hB (show 5 * i + 1 < Ls by omega) (by omega) d_law_486 ?_
      refine lv_aload_n C0.1 C0.2.1 d_law_487 rfl (lv_at hl 0 rfl) ?_
      refine lv_iload_n C0.1 C0.2.1 d_law_488 rfl (lv_at hl 3 rfl) ?_
      refine lv_iconst (v := nI 2) C0.1 C0.2.1 d_law_489 (by decide) ?_
      refine lv_iadd C0.1 C0.2.1 d_law_490 ?_
      refine ti (show (nI (5 * i)) + (nI 2) = nI (5 * i + 2) from nI_add _ _) ?_
      refine sld C0 hX hbl hbA hB (show 5 * i + 2 < Ls by omega) (by omega) d_law_491 ?_
      have hM : wB g classes A s.heap (mW bb t n kd em br ii oo np ea eb li rn wp wl wf wt L.length ct2 sT2 sP2 sa sb ((wW a t n kd em br ii oo np ea eb li rn (waL L) L.length sT sP ak ap af tt ac ct rp rt ([]) ([])) ++ wy_W t L)) _ _ := wB.rot (a := (wW a t n kd em br ii oo np ea eb li rn (waL L) L.length sT sP ak ap af tt ac ct rp rt ([]) ([]))) (b := (mW bb t n kd em br ii oo np ea eb li rn wp wl wf wt L.length ct2 sT2 sP2 sa sb ([]))) (y := wy_W t L) hB
      refine cR (As := [.int (xs (5 * i + 1)), .int (xs (5 * i + 2))]) (rest := [.int (-1)]) C0 (Rd.as (c_MO_other_out j0 fr to0 pl (by omega) b1 b2 b3 b4 a1 a3 p1 g1 _ hq) (by rw [p2])) (q_LW_64 C0.2.2.2.2.1 rfl rfl ⟨Nat.le_of_ble_eq_true rfl, Nat.le_of_ble_eq_true rfl⟩) (ci := 5) (q0 := 0) rfl rfl rfl hM.1 hl.1 rfl rfl (Nat.le_of_ble_eq_true rfl) d_law_492 ⟨(show cells ≤ 600000 by omega), (show slots ≤ 7302250 by omega)⟩ ?_
      refine W.eq (g2 := F0 m 495 ls [.int (-1), .int (-1)]) rfl ?_
      refine lv_icmp_eq (tgt := 652) C0.1 C0.2.1 d_law_495 (by decide) (fun _ => ?_) (fun c_495 => ?_)
      · skip
        exact W.widen (by omega) (by omega) (K _ _ _ _ _ _ _ _ _ _ _ _ _ _ _ _ _ _ _ _ _ _ _ _ _ _ _ _ _ _ _ (hI) _ _ hB)
      · exact absurd (rfl) c_495
  · have hr := Bool.eq_false_iff.mpr hr
    refine lv_aload_n C0.1 C0.2.1 d_law_467 rfl (lv_at hl 1 rfl) ?_
    refine lv_aload_n C0.1 C0.2.1 d_law_468 rfl (lv_at hl 0 rfl) ?_
    refine lv_iload_n C0.1 C0.2.1 d_law_469 rfl (lv_at hl 3 rfl) ?_
    refine lv_iconst (v := nI 1) C0.1 C0.2.1 d_law_470 (by decide) ?_
    refine lv_iadd C0.1 C0.2.1 d_law_471 ?_
    refine ti (show (nI (5 * i)) + (nI 1) = nI (5 * i + 1) from nI_add _ _) ?_
    refine sld C0 hX hbl hbA hB (show 5 * i + 1 < Ls by omega) (by omega) d_law_472 ?_
    refine lv_aload_n C0.1 C0.2.1 d_law_473 rfl (lv_at hl 0 rfl) ?_
    refine lv_iload_n C0.1 C0.2.1 d_law_474 rfl (lv_at hl 3 rfl) ?_
    refine lv_iconst (v := nI 2) C0.1 C0.2.1 d_law_475 (by decide) ?_
    refine lv_iadd C0.1 C0.2.1 d_law_476 ?_
    refine ti (show (nI (5 * i)) + (nI 2) = nI (5 * i + 2) from nI_add _ _) ?_
    refine sld C0 hX hbl hbA hB (show 5 * i + 2 < Ls by omega) (by omega) d_law_477 ?_
    refine cR (As := [.int (xs (5 * i + 1)), .int (xs (5 * i + 2))]) (rest := []) C0 (c_WS_other_no _ g1 hr _) (q_LW_61 C0.2.2.2.2.1 rfl rfl ⟨Nat.le_of_ble_eq_true rfl, Nat.le_of_ble_eq_true rfl⟩) (ci := 0) (q0 := 0) rfl rfl rfl hB.1 hl.1 rfl rfl (Nat.le_of_ble_eq_true rfl) d_law_478 ⟨(show cells ≤ 600000 by omega), (show slots ≤ 7302250 by omega)⟩ ?_
    refine W.eq (g2 := F0 m 481 ls [.int (-2)]) rfl ?_
    refine lv_aload_n C0.1 C0.2.1 d_law_481 rfl (lv_at hl 2 rfl) ?_
    refine lv_aload_n C0.1 C0.2.1 d_law_482 rfl (lv_at hl 0 rfl) ?_
    refine lv_iload_n C0.1 C0.2.1 d_law_483 rfl (lv_at hl 3 rfl) ?_
    refine lv_iconst (v := nI 1) C0.1 C0.2.1 d_law_484 (by decide) ?_
    refine lv_iadd C0.1 C0.2.1 d_law_485 ?_
    refine ti (show (nI (5 * i)) + (nI 1) = nI (5 * i + 1) from nI_add _ _) ?_
    refine sld C0 hX hbl hbA hB (show 5 * i + 1 < Ls by omega) (by omega) d_law_486 ?_
    refine lv_aload_n C0.1 C0.2.1 d_law_487 rfl (lv_at hl 0 rfl) ?_
    refine lv_iload_n C0.1 C0.2.1 d_law_488 rfl (lv_at hl 3 rfl) ?_
    refine lv_iconst (v := nI 2) C0.1 C0.2.1 d_law_489 (by decide) ?_
    refine lv_iadd C0.1 C0.2.1 d_law_490 ?_
    refine ti (show (nI (5 * i)) + (nI 2) = nI (5 * i + 2) from nI_add _ _) ?_
    refine sld C0 hX hbl hbA hB (show 5 * i + 2 < Ls by omega) (by omega) d_law_491 ?_
    have hM : wB g classes A s.heap (mW bb t n kd em br ii oo np ea eb li rn wp wl wf wt L.length ct2 sT2 sP2 sa sb ((wW a t n kd em br ii oo np ea eb li rn (waL L) L.length sT sP ak ap af tt ac ct rp rt ([]) ([])) ++ wy_W t L)) _ _ := wB.rot (a := (wW a t n kd em br ii oo np ea eb li rn (waL L) L.length sT sP ak ap af tt ac ct rp rt ([]) ([]))) (b := (mW bb t n kd em br ii oo np ea eb li rn wp wl wf wt L.length ct2 sT2 sP2 sa sb ([]))) (y := wy_W t L) hB
    refine cR (As := [.int (xs (5 * i + 1)), .int (xs (5 * i + 2))]) (rest := [.int (-2)]) C0 (c_MO_other_no _ g1 hr _) (q_LW_64 C0.2.2.2.2.1 rfl rfl ⟨Nat.le_of_ble_eq_true rfl, Nat.le_of_ble_eq_true rfl⟩) (ci := 5) (q0 := 0) rfl rfl rfl hM.1 hl.1 rfl rfl (Nat.le_of_ble_eq_true rfl) d_law_492 ⟨(show cells ≤ 600000 by omega), (show slots ≤ 7302250 by omega)⟩ ?_
    refine W.eq (g2 := F0 m 495 ls [.int (-2), .int (-2)]) rfl ?_
    refine lv_icmp_eq (tgt := 652) C0.1 C0.2.1 d_law_495 (by decide) (fun _ => ?_) (fun c_495 => ?_)
    · skip
      exact W.widen (by omega) (by omega) (K _ _ _ _ _ _ _ _ _ _ _ _ _ _ _ _ _ _ _ _ _ _ _ _ _ _ _ _ _ _ _ (hI) _ _ hB)
    · exact absurd (rfl) c_495
set_option maxHeartbeats 4000000 in
set_option maxRecDepth 100000 in
theorem lc_11 {p : Program} {l : Launch} {e : Env} {s : State} {m : MethodId} {below : List Frame} {meth : Method} {c : Code} {g : va_G} {t : Nat → ClassId} {a bb : Nat → Nat} {b0 Ls : Nat} {xs : Nat → Int32} {A : Nat → Prop} (C0 : cX p m c code 4 s #[Value.ref b0] R_LW g classes (tyL t)) (hX : va_X b0 Ls xs s s.heap) (hbl : b0 < s.heap.size) (hbA : ¬ A b0) (hLs : Ls ≤ 2560) {i : Nat} (hi : 5 * i + 5 ≤ Ls) {ls : Array Slot} (hl : lv_has ls 4 [(0, .ref b0), (1, .ref (a 0)), (2, .ref (bb 0)), (3, .int (nI (5 * i)))]) {cells slots : Nat} (hcc : cells + 6 ≤ 600000) (hss : slots + 200 ≤ 7302250) {Q : State → Prop} {n : Nat} {kd : Nat → Nat} {em : Nat → Bool} {br : Nat → Bool} {ii : Nat → Int32} {oo : Nat → Int32} {np : Nat} {ea : Nat → Nat} {eb : Nat → Nat} {li : Nat → Nat} {rn : Nat → Bool} {sT : Nat → Bool} {sP : Nat → Bool} {ak : Nat} {ap : Nat → Nat} {af : Nat → Nat} {tt : Nat → Nat} {ac : Nat → Nat} {ct : Nat → Nat} {rp : Nat → Nat} {rt : Nat → Nat} {L : List Wy} {wp : Nat → Nat} {wl : Nat → Nat} {wf : Nat → Nat} {wt : Nat → Nat} {ct2 : Nat → Nat} {sT2 : Nat → Bool} {sP2 : Nat → Bool} {sa : Nat → Nat} {sb : Nat → Nat} {H : Heap} {locs : List Loc} (hI : LInv n kd em br np ea eb li rn L wp wl wf wt) (hB : wB g classes A s.heap (wW a t n kd em br ii oo np ea eb li rn (waL L) L.length sT sP ak ap af tt ac ct rp rt (mW bb t n kd em br ii oo np ea eb li rn wp wl wf wt L.length ct2 sT2 sP2 sa sb ([])) L) H locs) (K : ∀ (n : Nat) (kd : Nat → Nat) (em : Nat → Bool) (br : Nat → Bool) (ii : Nat → Int32) (oo : Nat → Int32) (np : Nat) (ea : Nat → Nat) (eb : Nat → Nat) (li : Nat → Nat) (rn : Nat → Bool) (sT : Nat → Bool) (sP : Nat → Bool) (ak : Nat) (ap : Nat → Nat) (af : Nat → Nat) (tt : Nat → Nat) (ac : Nat → Nat) (ct : Nat → Nat) (rp : Nat → Nat) (rt : Nat → Nat) (L : List Wy) (wp : Nat → Nat) (wl : Nat → Nat) (wf : Nat → Nat) (wt : Nat → Nat) (ct2 : Nat → Nat) (sT2 : Nat → Bool) (sP2 : Nat → Bool) (sa : Nat → Nat) (sb : Nat → Nat), LInv n kd em br np ea eb li rn L wp wl wf wt → ∀ (H : Heap) (locs : List Loc), wB g classes A s.heap (wW a t n kd em br ii oo np ea eb li rn (waL L) L.length sT sP ak ap af tt ac ct rp rt (mW bb t n kd em br ii oo np ea eb li rn wp wl wf wt L.length ct2 sT2 sP2 sa sb ([])) L) H locs → W p l e room_1 s m #[Value.ref b0] below meth c H locs (cells + 6) (slots + 200) Q (F0 m 652 ls [])) : W p l e room_1 s m #[Value.ref b0] below meth c H locs cells slots Q (F0 m 500 ls []) := by
  obtain ⟨⟨h1, h2, h3, h4, h5, h6, h7, h8, h9, h10⟩, g1, g2, g3⟩ := id hI
  by_cases hr : ref2 n kd em (xs (5 * i + 1)) (xs (5 * i + 2)) (xs (5 * i + 3)) (xs (5 * i + 4)) = 0
  · obtain ⟨hr1, hr2⟩ := ref2_0 hr
    obtain ⟨u0, e0, p1, p2, p3, p4, p5, p6, p7⟩ := refC_ex h1 hr1
    rw [p3, p4] at hr1
    obtain ⟨u1, e1, o1, o2, o3, o4, o5, o6, o7⟩ := refC_ex h1 hr2
    rw [o3, o4] at hr2
    refine lv_aload_n C0.1 C0.2.1 d_law_500 rfl (lv_at hl 1 rfl) ?_
    refine lv_aload_n C0.1 C0.2.1 d_law_501 rfl (lv_at hl 0 rfl) ?_
    refine lv_iload_n C0.1 C0.2.1 d_law_502 rfl (lv_at hl 3 rfl) ?_
    refine lv_iconst (v := nI 1) C0.1 C0.2.1 d_law_503 (by decide) ?_
    refine lv_iadd C0.1 C0.2.1 d_law_504 ?_
    refine ti (show (nI (5 * i)) + (nI 1) = nI (5 * i + 1) from nI_add _ _) ?_
    refine sld C0 hX hbl hbA hB (show 5 * i + 1 < Ls by omega) (by omega) d_law_505 ?_
    refine lv_aload_n C0.1 C0.2.1 d_law_506 rfl (lv_at hl 0 rfl) ?_
    refine lv_iload_n C0.1 C0.2.1 d_law_507 rfl (lv_at hl 3 rfl) ?_
    refine lv_iconst (v := nI 2) C0.1 C0.2.1 d_law_508 (by decide) ?_
    refine lv_iadd C0.1 C0.2.1 d_law_509 ?_
    refine ti (show (nI (5 * i)) + (nI 2) = nI (5 * i + 2) from nI_add _ _) ?_
    refine sld C0 hX hbl hbA hB (show 5 * i + 2 < Ls by omega) (by omega) d_law_510 ?_
    refine lv_aload_n C0.1 C0.2.1 d_law_511 rfl (lv_at hl 0 rfl) ?_
    refine lv_iload_n C0.1 C0.2.1 d_law_512 rfl (lv_at hl 3 rfl) ?_
    refine lv_iconst (v := nI 3) C0.1 C0.2.1 d_law_513 (by decide) ?_
    refine lv_iadd C0.1 C0.2.1 d_law_514 ?_
    refine ti (show (nI (5 * i)) + (nI 3) = nI (5 * i + 3) from nI_add _ _) ?_
    refine sld C0 hX hbl hbA hB (show 5 * i + 3 < Ls by omega) (by omega) d_law_515 ?_
    refine lv_aload_n C0.1 C0.2.1 d_law_516 rfl (lv_at hl 0 rfl) ?_
    refine lv_iload_n C0.1 C0.2.1 d_law_517 rfl (lv_at hl 3 rfl) ?_
    refine lv_iconst (v := nI 4) C0.1 C0.2.1 d_law_518 (by decide) ?_
    refine lv_iadd C0.1 C0.2.1 d_law_519 ?_
    refine ti (show (nI (5 * i)) + (nI 4) = nI (5 * i + 4) from nI_add _ _) ?_
    refine sld C0 hX hbl hbA hB (show 5 * i + 4 < Ls by omega) (by omega) d_law_520 ?_
    refine cM (As := [.int (xs (5 * i + 1)), .int (xs (5 * i + 2)), .int (xs (5 * i + 3)), .int (xs (5 * i + 4))]) (rest := []) C0 (Mt.as (c_WS_two u0 e0 u1 e1 p1 p2 o1 o2 hr1 hr2 g1 h1 h2 h3 h4 h5 h6) (by rw [p3, p4, o3, o4])) (q_LW_65 C0.2.2.2.2.1 rfl rfl ⟨Nat.le_of_ble_eq_true rfl, Nat.le_of_ble_eq_true rfl⟩) (ci := 0) (q0 := 0) rfl rfl rfl hB hl.1 rfl rfl (Nat.le_of_ble_eq_true rfl) d_law_521 ⟨(show cells + 6 ≤ 600000 by omega), (show slots + 200 ≤ 7302250 by omega)⟩ (fun v_521 u_521 H locs hp_521 hB => ?_)
    obtain ⟨⟨sT9, sP9⟩, ⟨sT7, sP7⟩, ⟨ak9, ap9, af9, tt9, ac9, ct9, rp9, rt9⟩, ox, oy⟩ := u_521
    obtain ⟨rfl, q1, q2, q3, q4, q5⟩ := hp_521
    have hB : wB g classes A s.heap (wW a t n kd em br ii oo np ea eb li rn (waL (twoL L ox oy)) ((twoL L ox oy).length) sT7 sP7 ak9 ap9 af9 tt9 ac9 ct9 rp9 rt9 (mW bb t n kd em br ii oo np ea eb li rn wp wl wf wt L.length ct2 sT2 sP2 sa sb ([])) (twoL L ox oy)) H locs := hB
    refine W.eq (g2 := F0 m 524 ls [.int (twoR L.length ox oy)]) rfl ?_
    refine lv_aload_n C0.1 C0.2.1 d_law_524 rfl (lv_at hl 2 rfl) ?_
    refine lv_aload_n C0.1 C0.2.1 d_law_525 rfl (lv_at hl 0 rfl) ?_
    refine lv_iload_n C0.1 C0.2.1 d_law_526 rfl (lv_at hl 3 rfl) ?_
    refine lv_iconst (v := nI 1) C0.1 C0.2.1 d_law_527 (by decide) ?_
    refine lv_iadd C0.1 C0.2.1 d_law_528 ?_
    refine ti (show (nI (5 * i)) + (nI 1) = nI (5 * i + 1) from nI_add _ _) ?_
    refine sld C0 hX hbl hbA hB (show 5 * i + 1 < Ls by omega) (by omega) d_law_529 ?_
    refine lv_aload_n C0.1 C0.2.1 d_law_530 rfl (lv_at hl 0 rfl) ?_
    refine lv_iload_n C0.1 C0.2.1 d_law_531 rfl (lv_at hl 3 rfl) ?_
    refine lv_iconst (v := nI 2) C0.1 C0.2.1 d_law_532 (by decide) ?_
    refine lv_iadd C0.1 C0.2.1 d_law_533 ?_
    refine ti (show (nI (5 * i)) + (nI 2) = nI (5 * i + 2) from nI_add _ _) ?_
    refine sld C0 hX hbl hbA hB (show 5 * i + 2 < Ls by omega) (by omega) d_law_534 ?_
    refine lv_aload_n C0.1 C0.2.1 d_law_535 rfl (lv_at hl 0 rfl) ?_
    refine lv_iload_n C0.1 C0.2.1 d_law_536 rfl (lv_at hl 3 rfl) ?_
    refine lv_iconst (v := nI 3) C0.1 C0.2.1 d_law_537 (by decide) ?_
    refine lv_iadd C0.1 C0.2.1 d_law_538 ?_
    refine ti (show (nI (5 * i)) + (nI 3) = nI (5 * i + 3) from nI_add _ _) ?_
    refine sld C0 hX hbl hbA hB (show 5 * i + 3 < Ls by omega) (by omega) d_law_539 ?_
    refine lv_aload_n C0.1 C0.2.1 d_law_540 rfl (lv_at hl 0 rfl) ?_
    refine lv_iload_n C0.1 C0.2.1 d_law_541 rfl (lv_at hl 3 rfl) ?_
    refine lv_iconst (v := nI 4) C0.1 C0.2.1 d_law_542 (by decide) ?_
    refine lv_iadd C0.1 C0.2.1 d_law_543 ?_
    refine ti (show (nI (5 * i)) + (nI 4) = nI (5 * i + 4) from nI_add _ _) ?_
    refine sld C0 hX hbl hbA hB (show 5 * i + 4 < Ls by omega) (by omega) d_law_544 ?_
    have hM : wB g classes A s.heap (mW bb t n kd em br ii oo np ea eb li rn wp wl wf wt L.length ct2 sT2 sP2 sa sb ((wW a t n kd em br ii oo np ea eb li rn (waL (twoL L ox oy)) ((twoL L ox oy).length) sT7 sP7 ak9 ap9 af9 tt9 ac9 ct9 rp9 rt9 ([]) ([])) ++ wy_W t (twoL L ox oy))) _ _ := wB.rot (a := (wW a t n kd em br ii oo np ea eb li rn (waL (twoL L ox oy)) ((twoL L ox oy).length) sT7 sP7 ak9 ap9 af9 tt9 ac9 ct9 rp9 rt9 ([]) ([]))) (b := (mW bb t n kd em br ii oo np ea eb li rn wp wl wf wt L.length ct2 sT2 sP2 sa sb ([]))) (y := wy_W t (twoL L ox oy)) hB
    refine cM (As := [.int (xs (5 * i + 1)), .int (xs (5 * i + 2)), .int (xs (5 * i + 3)), .int (xs (5 * i + 4))]) (rest := [.int (twoR L.length ox oy)]) C0 (Mt.as (c_MO_two u0 e0 u1 e1 _ p1 p2 o1 o2 hr1 hr2 rfl g1 p5 h7 h1 h2 h3 h4 h5 h6) (by rw [p3, p4, o3, o4])) (q_LW_69 C0.2.2.2.2.1 rfl rfl ⟨Nat.le_of_ble_eq_true rfl, Nat.le_of_ble_eq_true rfl⟩) (ci := 5) (q0 := 0) rfl rfl rfl hM hl.1 rfl rfl (Nat.le_of_ble_eq_true rfl) d_law_545 ⟨(show cells + 6 + 0 ≤ 600000 by omega), (show slots + 200 + 0 ≤ 7302250 by omega)⟩ (fun v_545 u_545 H locs hp_545 hB => ?_)
    obtain ⟨⟨⟨sT8, sP8⟩, ⟨sT6, sP6⟩, ⟨ct8, wp8, wl8, wf8, wt8⟩, ⟨sa8, sb8⟩, wn8⟩, ox8, oy8, r8⟩ := u_545
    obtain ⟨rfl, r1, r2, r3⟩ := hp_545
    have hM : wB g classes A s.heap (mW bb t n kd em br ii oo np ea eb li rn wp8 wl8 wf8 wt8 wn8 ct8 sT6 sP6 sa8 sb8 ((wW a t n kd em br ii oo np ea eb li rn (waL (twoL L ox oy)) ((twoL L ox oy).length) sT7 sP7 ak9 ap9 af9 tt9 ac9 ct9 rp9 rt9 ([]) ([])) ++ wy_W t (twoL L ox oy))) H locs := hB
    have hB : wB g classes A s.heap (wW a t n kd em br ii oo np ea eb li rn (waL (twoL L ox oy)) ((twoL L ox oy).length) sT7 sP7 ak9 ap9 af9 tt9 ac9 ct9 rp9 rt9 (mW bb t n kd em br ii oo np ea eb li rn wp8 wl8 wf8 wt8 wn8 ct8 sT6 sP6 sa8 sb8 ([])) (twoL L ox oy)) H locs := wB.rot (a := (mW bb t n kd em br ii oo np ea eb li rn wp8 wl8 wf8 wt8 wn8 ct8 sT6 sP6 sa8 sb8 ([]))) (b := (wW a t n kd em br ii oo np ea eb li rn (waL (twoL L ox oy)) ((twoL L ox oy).length) sT7 sP7 ak9 ap9 af9 tt9 ac9 ct9 rp9 rt9 ([]) ([]))) (y := wy_W t (twoL L ox oy)) hM
    refine W.eq (g2 := F0 m 548 ls [.int r8, .int (twoR L.length ox oy)]) rfl ?_
    obtain ⟨z1, z2, z3⟩ := two_end hI rfl p1 p2 p5 p6 p7 o1 o2 o5 o6 o7 (fun v hv => (q1 v hv).trans (r1 v hv).symm) (fun v hv => (q2 v hv).trans (r2 v hv).symm) q3 q4 q5 r3
    dsimp only at z1 z2 z3
    rw [z3] at hB
    refine lv_icmp_eq (tgt := 652) C0.1 C0.2.1 d_law_548 (by decide) (fun _ => ?_) (fun c_548 => ?_)
    · skip
      exact W.widen (by omega) (by omega) (K _ _ _ _ _ _ _ _ _ _ _ _ _ _ _ _ _ _ _ _ _ _ _ _ _ _ _ _ _ _ _ (z2) _ _ hB)
    · exact absurd (z1) c_548
  · skip
    refine lv_aload_n C0.1 C0.2.1 d_law_500 rfl (lv_at hl 1 rfl) ?_
    refine lv_aload_n C0.1 C0.2.1 d_law_501 rfl (lv_at hl 0 rfl) ?_
    refine lv_iload_n C0.1 C0.2.1 d_law_502 rfl (lv_at hl 3 rfl) ?_
    refine lv_iconst (v := nI 1) C0.1 C0.2.1 d_law_503 (by decide) ?_
    refine lv_iadd C0.1 C0.2.1 d_law_504 ?_
    refine ti (show (nI (5 * i)) + (nI 1) = nI (5 * i + 1) from nI_add _ _) ?_
    refine sld C0 hX hbl hbA hB (show 5 * i + 1 < Ls by omega) (by omega) d_law_505 ?_
    refine lv_aload_n C0.1 C0.2.1 d_law_506 rfl (lv_at hl 0 rfl) ?_
    refine lv_iload_n C0.1 C0.2.1 d_law_507 rfl (lv_at hl 3 rfl) ?_
    refine lv_iconst (v := nI 2) C0.1 C0.2.1 d_law_508 (by decide) ?_
    refine lv_iadd C0.1 C0.2.1 d_law_509 ?_
    refine ti (show (nI (5 * i)) + (nI 2) = nI (5 * i + 2) from nI_add _ _) ?_
    refine sld C0 hX hbl hbA hB (show 5 * i + 2 < Ls by omega) (by omega) d_law_510 ?_
    refine lv_aload_n C0.1 C0.2.1 d_law_511 rfl (lv_at hl 0 rfl) ?_
    refine lv_iload_n C0.1 C0.2.1 d_law_512 rfl (lv_at hl 3 rfl) ?_
    refine lv_iconst (v := nI 3) C0.1 C0.2.1 d_law_513 (by decide) ?_
    refine lv_iadd C0.1 C0.2.1 d_law_514 ?_
    refine ti (show (nI (5 * i)) + (nI 3) = nI (5 * i + 3) from nI_add _ _) ?_
    refine sld C0 hX hbl hbA hB (show 5 * i + 3 < Ls by omega) (by omega) d_law_515 ?_
    refine lv_aload_n C0.1 C0.2.1 d_law_516 rfl (lv_at hl 0 rfl) ?_
    refine lv_iload_n C0.1 C0.2.1 d_law_517 rfl (lv_at hl 3 rfl) ?_
    refine lv_iconst (v := nI 4) C0.1 C0.2.1 d_law_518 (by decide) ?_
    refine lv_iadd C0.1 C0.2.1 d_law_519 ?_
    refine ti (show (nI (5 * i)) + (nI 4) = nI (5 * i + 4) from nI_add _ _) ?_
    refine sld C0 hX hbl hbA hB (show 5 * i + 4 < Ls by omega) (by omega) d_law_520 ?_
    refine cR (As := [.int (xs (5 * i + 1)), .int (xs (5 * i + 2)), .int (xs (5 * i + 3)), .int (xs (5 * i + 4))]) (rest := []) C0 (c_WS_two_no _ _ _ _ h1 h3 hr) (q_LW_65 C0.2.2.2.2.1 rfl rfl ⟨Nat.le_of_ble_eq_true rfl, Nat.le_of_ble_eq_true rfl⟩) (ci := 0) (q0 := 0) rfl rfl rfl hB.1 hl.1 rfl rfl (Nat.le_of_ble_eq_true rfl) d_law_521 ⟨(show cells ≤ 600000 by omega), (show slots ≤ 7302250 by omega)⟩ ?_
    refine W.eq (g2 := F0 m 524 ls [.int (ref2 n kd em (xs (5 * i + 1)) (xs (5 * i + 2)) (xs (5 * i + 3)) (xs (5 * i + 4)))]) rfl ?_
    refine lv_aload_n C0.1 C0.2.1 d_law_524 rfl (lv_at hl 2 rfl) ?_
    refine lv_aload_n C0.1 C0.2.1 d_law_525 rfl (lv_at hl 0 rfl) ?_
    refine lv_iload_n C0.1 C0.2.1 d_law_526 rfl (lv_at hl 3 rfl) ?_
    refine lv_iconst (v := nI 1) C0.1 C0.2.1 d_law_527 (by decide) ?_
    refine lv_iadd C0.1 C0.2.1 d_law_528 ?_
    refine ti (show (nI (5 * i)) + (nI 1) = nI (5 * i + 1) from nI_add _ _) ?_
    refine sld C0 hX hbl hbA hB (show 5 * i + 1 < Ls by omega) (by omega) d_law_529 ?_
    refine lv_aload_n C0.1 C0.2.1 d_law_530 rfl (lv_at hl 0 rfl) ?_
    refine lv_iload_n C0.1 C0.2.1 d_law_531 rfl (lv_at hl 3 rfl) ?_
    refine lv_iconst (v := nI 2) C0.1 C0.2.1 d_law_532 (by decide) ?_
    refine lv_iadd C0.1 C0.2.1 d_law_533 ?_
    refine ti (show (nI (5 * i)) + (nI 2) = nI (5 * i + 2) from nI_add _ _) ?_
    refine sld C0 hX hbl hbA hB (show 5 * i + 2 < Ls by omega) (by omega) d_law_534 ?_
    refine lv_aload_n C0.1 C0.2.1 d_law_535 rfl (lv_at hl 0 rfl) ?_
    refine lv_iload_n C0.1 C0.2.1 d_law_536 rfl (lv_at hl 3 rfl) ?_
    refine lv_iconst (v := nI 3) C0.1 C0.2.1 d_law_537 (by decide) ?_
    refine lv_iadd C0.1 C0.2.1 d_law_538 ?_
    refine ti (show (nI (5 * i)) + (nI 3) = nI (5 * i + 3) from nI_add _ _) ?_
    refine sld C0 hX hbl hbA hB (show 5 * i + 3 < Ls by omega) (by omega) d_law_539 ?_
    refine lv_aload_n C0.1 C0.2.1 d_law_540 rfl (lv_at hl 0 rfl) ?_
    refine lv_iload_n C0.1 C0.2.1 d_law_541 rfl (lv_at hl 3 rfl) ?_
    refine lv_iconst (v := nI 4) C0.1 C0.2.1 d_law_542 (by decide) ?_
    refine lv_iadd C0.1 C0.2.1 d_law_543 ?_
    refine ti (show (nI (5 * i)) + (nI 4) = nI (5 * i + 4) from nI_add _ _) ?_
    refine sld C0 hX hbl hbA hB (show 5 * i + 4 < Ls by omega) (by omega) d_law_544 ?_
    have hM : wB g classes A s.heap (mW bb t n kd em br ii oo np ea eb li rn wp wl wf wt L.length ct2 sT2 sP2 sa sb ((wW a t n kd em br ii oo np ea eb li rn (waL L) L.length sT sP ak ap af tt ac ct rp rt ([]) ([])) ++ wy_W t L)) _ _ := wB.rot (a := (wW a t n kd em br ii oo np ea eb li rn (waL L) L.length sT sP ak ap af tt ac ct rp rt ([]) ([]))) (b := (mW bb t n kd em br ii oo np ea eb li rn wp wl wf wt L.length ct2 sT2 sP2 sa sb ([]))) (y := wy_W t L) hB
    refine cR (As := [.int (xs (5 * i + 1)), .int (xs (5 * i + 2)), .int (xs (5 * i + 3)), .int (xs (5 * i + 4))]) (rest := [.int (ref2 n kd em (xs (5 * i + 1)) (xs (5 * i + 2)) (xs (5 * i + 3)) (xs (5 * i + 4)))]) C0 (c_MO_two_no _ _ _ _ h1 h3 hr) (q_LW_69 C0.2.2.2.2.1 rfl rfl ⟨Nat.le_of_ble_eq_true rfl, Nat.le_of_ble_eq_true rfl⟩) (ci := 5) (q0 := 0) rfl rfl rfl hM.1 hl.1 rfl rfl (Nat.le_of_ble_eq_true rfl) d_law_545 ⟨(show cells ≤ 600000 by omega), (show slots ≤ 7302250 by omega)⟩ ?_
    refine W.eq (g2 := F0 m 548 ls [.int (ref2 n kd em (xs (5 * i + 1)) (xs (5 * i + 2)) (xs (5 * i + 3)) (xs (5 * i + 4))), .int (ref2 n kd em (xs (5 * i + 1)) (xs (5 * i + 2)) (xs (5 * i + 3)) (xs (5 * i + 4)))]) rfl ?_
    refine lv_icmp_eq (tgt := 652) C0.1 C0.2.1 d_law_548 (by decide) (fun _ => ?_) (fun c_548 => ?_)
    · skip
      exact W.widen (by omega) (by omega) (K _ _ _ _ _ _ _ _ _ _ _ _ _ _ _ _ _ _ _ _ _ _ _ _ _ _ _ _ _ _ _ (hI) _ _ hB)
    · exact absurd (rfl) c_548

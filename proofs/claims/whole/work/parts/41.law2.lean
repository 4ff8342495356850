theorem Mt.as {l : Launch} {y : MethodName} {ws : List Cond} {rm : Room} {g : va_G} {cl : List vw_C} {tys : List (ClassId × FieldType)} {av av' : List Value} {w : va_W} {S : Type} {post : Option Value → S → Prop} {w1 : S → va_W} {mc ms : Nat} (h : Mt l y ws rm g cl tys av w post w1 mc ms) (e : av' = av) : Mt l y ws rm g cl tys av' w post w1 mc ms := e ▸ h
theorem Rd.as {l : Launch} {y : MethodName} {ws : List Cond} {rm : Room} {g : va_G} {cl : List vw_C} {tys : List (ClassId × FieldType)} {av av' : List Value} {w : va_W} {v : Option Value} (h : Rd l y ws rm g cl tys av w v) (e : av' = av) : Rd l y ws rm g cl tys av' w v := e ▸ h
/-- a way of the list, by its number -/
theorem Wy_at {L : List Wy} {x : Int32} (hL : L.length ≤ 64) (h : hasB L.length x = true) : ∃ (j : Nat) (pa ta oa fr to0 lit : Nat) (pl tl : List Nat), j < L.length ∧ x = nI j ∧ L[j]? = some (pa, ta, oa, fr, to0, lit, pl, tl) := by
  obtain ⟨j, hj, e⟩ := hasB_ex (by omega) h
  exact ⟨j, _, _, _, _, _, _, _, _, hj, e, List.getElem?_eq_getElem hj⟩
set_option maxHeartbeats 4000000 in
set_option maxRecDepth 100000 in
theorem lc_3 {p : Program} {l : Launch} {e : Env} {s : State} {m : MethodId} {below : List Frame} {meth : Method} {c : Code} {g : va_G} {t : Nat → ClassId} {a bb : Nat → Nat} {b0 Ls : Nat} {xs : Nat → Int32} {A : Nat → Prop} (C0 : cX p m c code 4 s #[Value.ref b0] R_LW g classes (tyL t)) (hX : va_X b0 Ls xs s s.heap) (hbl : b0 < s.heap.size) (hbA : ¬ A b0) (hLs : Ls ≤ 2560) {i : Nat} (hi : 5 * i + 5 ≤ Ls) {ls : Array Slot} (hl : lv_has ls 4 [(0, .ref b0), (1, .ref (a 0)), (2, .ref (bb 0)), (3, .int (nI (5 * i)))]) {cells slots : Nat} (hcc : cells + 6 ≤ 600000) (hss : slots + 200 ≤ 7302250) {Q : State → Prop} {n : Nat} {kd : Nat → Nat} {em : Nat → Bool} {br : Nat → Bool} {ii : Nat → Int32} {oo : Nat → Int32} {np : Nat} {ea : Nat → Nat} {eb : Nat → Nat} {li : Nat → Nat} {rn : Nat → Bool} {sT : Nat → Bool} {sP : Nat → Bool} {ak : Nat} {ap : Nat → Nat} {af : Nat → Nat} {tt : Nat → Nat} {ac : Nat → Nat} {ct : Nat → Nat} {rp : Nat → Nat} {rt : Nat → Nat} {L : List Wy} {wp : Nat → Nat} {wl : Nat → Nat} {wf : Nat → Nat} {wt : Nat → Nat} {ct2 : Nat → Nat} {sT2 : Nat → Bool} {sP2 : Nat → Bool} {sa : Nat → Nat} {sb : Nat → Nat} {H : Heap} {locs : List Loc} (hI : LInv n kd em br np ea eb li rn L wp wl wf wt) (hB : wB g classes A s.heap (wW a t n kd em br ii oo np ea eb li rn (waL L) L.length sT sP ak ap af tt ac ct rp rt (mW bb t n kd em br ii oo np ea eb li rn wp wl wf wt L.length ct2 sT2 sP2 sa sb ([])) L) H locs) (K : ∀ (n : Nat) (kd : Nat → Nat) (em : Nat → Bool) (br : Nat → Bool) (ii : Nat → Int32) (oo : Nat → Int32) (np : Nat) (ea : Nat → Nat) (eb : Nat → Nat) (li : Nat → Nat) (rn : Nat → Bool) (sT : Nat → Bool) (sP : Nat → Bool) (ak : Nat) (ap : Nat → Nat) (af : Nat → Nat) (tt : Nat → Nat) (ac : Nat → Nat) (ct : Nat → Nat) (rp : Nat → Nat) (rt : Nat → Nat) (L : List Wy) (wp : Nat → Nat) (wl : Nat → Nat) (wf : Nat → Nat) (wt : Nat → Nat) (ct2 : Nat → Nat) (sT2 : Nat → Bool) (sP2 : Nat → Bool) (sa : Nat → Nat) (sb : Nat → Nat), LInv n kd em br np ea eb li rn L wp wl wf wt → ∀ (H : Heap) (locs : List Loc), wB g classes A s.heap (wW a t n kd em br ii oo np ea eb li rn (waL L) L.length sT sP ak ap af tt ac ct rp rt (mW bb t n kd em br ii oo np ea eb li rn wp wl wf wt L.length ct2 sT2 sP2 sa sb ([])) L) H locs → W p l e room_1 s m #[Value.ref b0] below meth c H locs (cells + 6) (slots + 200) Q (F0 m 652 ls [])) : W p l e room_1 s m #[Value.ref b0] below meth c H locs cells slots Q (F0 m 173 ls []) := by
  obtain ⟨⟨h1, h2, h3, h4, h5, h6, h7, h8, h9, h10⟩, g1, g2, g3⟩ := id hI
  by_cases hr : pipR n np (xs (5 * i + 1)) (xs (5 * i + 2)) ((((xs (5 * i + 3)).toInt64) <<< ((nI 32).toInt64 &&& 63)) ||| (((xs (5 * i + 4)).toInt64) &&& (lN 4294967295))) = 0
  · obtain ⟨i0, j0, k0, p1, p2, p3, p4, p5, p6, p7, p8, p9⟩ := pipR_ex h1 hr
    refine lv_aload_n C0.1 C0.2.1 d_law_173 rfl (lv_at hl 1 rfl) ?_
    refine lv_aload_n C0.1 C0.2.1 d_law_174 rfl (lv_at hl 0 rfl) ?_
    refine lv_iload_n C0.1 C0.2.1 d_law_175 rfl (lv_at hl 3 rfl) ?_
    refine lv_iconst (v := nI 1) C0.1 C0.2.1 d_law_176 (by decide) ?_
    refine lv_iadd C0.1 C0.2.1 d_law_177 ?_
    refine ti (show (nI (5 * i)) + (nI 1) = nI (5 * i + 1) from nI_add _ _) ?_
    refine sld C0 hX hbl hbA hB (show 5 * i + 1 < Ls by omega) (by omega) d_law_178 ?_
    refine lv_aload_n C0.1 C0.2.1 d_law_179 rfl (lv_at hl 0 rfl) ?_
    refine lv_iload_n C0.1 C0.2.1 d_law_180 rfl (lv_at hl 3 rfl) ?_
    refine lv_iconst (v := nI 2) C0.1 C0.2.1 d_law_181 (by decide) ?_
    refine lv_iadd C0.1 C0.2.1 d_law_182 ?_
    refine ti (show (nI (5 * i)) + (nI 2) = nI (5 * i + 2) from nI_add _ _) ?_
    refine sld C0 hX hbl hbA hB (show 5 * i + 2 < Ls by omega) (by omega) d_law_183 ?_
    refine lv_aload_n C0.1 C0.2.1 d_law_184 rfl (lv_at hl 0 rfl) ?_
    refine lv_iload_n C0.1 C0.2.1 d_law_185 rfl (lv_at hl 3 rfl) ?_
    refine lv_iconst (v := nI 3) C0.1 C0.2.1 d_law_186 (by decide) ?_
    refine lv_iadd C0.1 C0.2.1 d_law_187 ?_
    refine ti (show (nI (5 * i)) + (nI 3) = nI (5 * i + 3) from nI_add _ _) ?_
    refine sld C0 hX hbl hbA hB (show 5 * i + 3 < Ls by omega) (by omega) d_law_188 ?_
    refine lv_i2l C0.1 C0.2.1 d_law_189 rfl ?_
    refine lv_bipush (v := nI 32) C0.1 C0.2.1 d_law_190 (by decide) ?_
    refine lv_lshl C0.1 C0.2.1 d_law_192 rfl ?_
    refine lv_aload_n C0.1 C0.2.1 d_law_193 rfl (lv_at hl 0 rfl) ?_
    refine lv_iload_n C0.1 C0.2.1 d_law_194 rfl (lv_at hl 3 rfl) ?_
    refine lv_iconst (v := nI 4) C0.1 C0.2.1 d_law_195 (by decide) ?_
    refine lv_iadd C0.1 C0.2.1 d_law_196 ?_
    refine ti (show (nI (5 * i)) + (nI 4) = nI (5 * i + 4) from nI_add _ _) ?_
    refine sld C0 hX hbl hbA hB (show 5 * i + 4 < Ls by omega) (by omega) d_law_197 ?_
    refine lv_i2l C0.1 C0.2.1 d_law_198 rfl ?_
    refine lv_ldc2 C0.1 C0.2.1 C0.2.2.2.1 (C0.2.2.2.2.1 _ k_LW_27) d_law_199 ?_
    refine tl (show (4294967295 : Int64) = lN 4294967295 from rfl) ?_
    refine lv_land C0.1 C0.2.1 d_law_202 ?_
    refine lv_lor C0.1 C0.2.1 d_law_203 ?_
    refine cM (As := [.int (xs (5 * i + 1)), .int (xs (5 * i + 2)), .long ((((xs (5 * i + 3)).toInt64) <<< ((nI 32).toInt64 &&& 63)) ||| (((xs (5 * i + 4)).toInt64) &&& (lN 4294967295)))]) (rest := []) C0 (Mt.as (c_WS_pipe i0 j0 k0 p1 p2 p8 p6 p7 h1 (by omega)) (by rw [p3, p4, p5])) (q_LW_29 C0.2.2.2.2.1 rfl rfl ⟨Nat.le_of_ble_eq_true rfl, Nat.le_of_ble_eq_true rfl⟩) (ci := 0) (q0 := 0) rfl rfl rfl hB hl.1 rfl rfl (Nat.le_of_ble_eq_true rfl) d_law_204 ⟨(show cells + 0 ≤ 600000 by omega), (show slots + 0 ≤ 7302250 by omega)⟩ (fun v_204 u_204 H locs hp_204 hB => ?_)
    obtain rfl := hp_204
    have hB : wB g classes A s.heap (wW a t n kd em br ii oo (np + 1) (va_up ea np i0) (va_up eb np j0) (va_up li np k0) rn (waL L) L.length sT sP ak ap af tt ac ct rp rt (mW bb t n kd em br ii oo np ea eb li rn wp wl wf wt L.length ct2 sT2 sP2 sa sb ([])) L) H locs := hB
    refine W.eq (g2 := F0 m 207 ls [.int (nI np)]) rfl ?_
    refine lv_aload_n C0.1 C0.2.1 d_law_207 rfl (lv_at hl 2 rfl) ?_
    refine lv_aload_n C0.1 C0.2.1 d_law_208 rfl (lv_at hl 0 rfl) ?_
    refine lv_iload_n C0.1 C0.2.1 d_law_209 rfl (lv_at hl 3 rfl) ?_
    refine lv_iconst (v := nI 1) C0.1 C0.2.1 d_law_210 (by decide) ?_
    refine lv_iadd C0.1 C0.2.1 d_law_211 ?_
    refine ti (show (nI (5 * i)) + (nI 1) = nI (5 * i + 1) from nI_add _ _) ?_
    refine sld C0 hX hbl hbA hB (show 5 * i + 1 < Ls by omega) (by omega) d_law_212 ?_
    refine lv_aload_n C0.1 C0.2.1 d_law_213 rfl (lv_at hl 0 rfl) ?_
    refine lv_iload_n C0.1 C0.2.1 d_law_214 rfl (lv_at hl 3 rfl) ?_
    refine lv_iconst (v := nI 2) C0.1 C0.2.1 d_law_215 (by decide) ?_
    refine lv_iadd C0.1 C0.2.1 d_law_216 ?_
    refine ti (show (nI (5 * i)) + (nI 2) = nI (5 * i + 2) from nI_add _ _) ?_
    refine sld C0 hX hbl hbA hB (show 5 * i + 2 < Ls by omega) (by omega) d_law_217 ?_
    refine lv_aload_n C0.1 C0.2.1 d_law_218 rfl (lv_at hl 0 rfl) ?_
    refine lv_iload_n C0.1 C0.2.1 d_law_219 rfl (lv_at hl 3 rfl) ?_
    refine lv_iconst (v := nI 3) C0.1 C0.2.1 d_law_220 (by decide) ?_
    refine lv_iadd C0.1 C0.2.1 d_law_221 ?_
    refine ti (show (nI (5 * i)) + (nI 3) = nI (5 * i + 3) from nI_add _ _) ?_
    refine sld C0 hX hbl hbA hB (show 5 * i + 3 < Ls by omega) (by omega) d_law_222 ?_
    refine lv_i2l C0.1 C0.2.1 d_law_223 rfl ?_
    refine lv_bipush (v := nI 32) C0.1 C0.2.1 d_law_224 (by decide) ?_
    refine lv_lshl C0.1 C0.2.1 d_law_226 rfl ?_
    refine lv_aload_n C0.1 C0.2.1 d_law_227 rfl (lv_at hl 0 rfl) ?_
    refine lv_iload_n C0.1 C0.2.1 d_law_228 rfl (lv_at hl 3 rfl) ?_
    refine lv_iconst (v := nI 4) C0.1 C0.2.1 d_law_229 (by decide) ?_
    refine lv_iadd C0.1 C0.2.1 d_law_230 ?_
    refine ti (show (nI (5 * i)) + (nI 4) = nI (5 * i + 4) from nI_add _ _) ?_
    refine sld C0 hX hbl hbA hB (show 5 * i + 4 < Ls by omega) (by omega) d_law_231 ?_
    refine lv_i2l C0.1 C0.2.1 d_law_232 rfl ?_
    refine lv_ldc2 C0.1 C0.2.1 C0.2.2.2.1 (C0.2.2.2.2.1 _ k_LW_27) d_law_233 ?_
    refine tl (show (4294967295 : Int64) = lN 4294967295 from rfl) ?_
    refine lv_land C0.1 C0.2.1 d_law_236 ?_
    refine lv_lor C0.1 C0.2.1 d_law_237 ?_
    have hM : wB g classes A s.heap (mW bb t n kd em br ii oo np ea eb li rn wp wl wf wt L.length ct2 sT2 sP2 sa sb ((wW a t n kd em br ii oo (np + 1) (va_up ea np i0) (va_up eb np j0) (va_up li np k0) rn (waL L) L.length sT sP ak ap af tt ac ct rp rt ([]) ([])) ++ wy_W t L)) _ _ := wB.rot (a := (wW a t n kd em br ii oo (np + 1) (va_up ea np i0) (va_up eb np j0) (va_up li np k0) rn (waL L) L.length sT sP ak ap af tt ac ct rp rt ([]) ([]))) (b := (mW bb t n kd em br ii oo np ea eb li rn wp wl wf wt L.length ct2 sT2 sP2 sa sb ([]))) (y := wy_W t L) hB
    refine cM (As := [.int (xs (5 * i + 1)), .int (xs (5 * i + 2)), .long ((((xs (5 * i + 3)).toInt64) <<< ((nI 32).toInt64 &&& 63)) ||| (((xs (5 * i + 4)).toInt64) &&& (lN 4294967295)))]) (rest := [.int (nI np)]) C0 (Mt.as (c_MO_pipe i0 j0 k0 p1 p2 p8 p6 p7 h1 (by omega)) (by rw [p3, p4, p5])) (q_LW_33 C0.2.2.2.2.1 rfl rfl ⟨Nat.le_of_ble_eq_true rfl, Nat.le_of_ble_eq_true rfl⟩) (ci := 5) (q0 := 0) rfl rfl rfl hM hl.1 rfl rfl (Nat.le_of_ble_eq_true rfl) d_law_238 ⟨(show cells + 0 + 0 ≤ 600000 by omega), (show slots + 0 + 0 ≤ 7302250 by omega)⟩ (fun v_238 u_238 H locs hp_238 hB => ?_)
    obtain rfl := hp_238
    have hM : wB g classes A s.heap (mW bb t n kd em br ii oo (np + 1) (va_up ea np i0) (va_up eb np j0) (va_up li np k0) rn wp wl wf wt L.length ct2 sT2 sP2 sa sb ((wW a t n kd em br ii oo (np + 1) (va_up ea np i0) (va_up eb np j0) (va_up li np k0) rn (waL L) L.length sT sP ak ap af tt ac ct rp rt ([]) ([])) ++ wy_W t L)) H locs := hB
    have hB : wB g classes A s.heap (wW a t n kd em br ii oo (np + 1) (va_up ea np i0) (va_up eb np j0) (va_up li np k0) rn (waL L) L.length sT sP ak ap af tt ac ct rp rt (mW bb t n kd em br ii oo (np + 1) (va_up ea np i0) (va_up eb np j0) (va_up li np k0) rn wp wl wf wt L.length ct2 sT2 sP2 sa sb ([])) L) H locs := wB.rot (a := (mW bb t n kd em br ii oo (np + 1) (va_up ea np i0) (va_up eb np j0) (va_up li np k0) rn wp wl wf wt L.length ct2 sT2 sP2 sa sb ([]))) (b := (wW a t n kd em br ii oo (np + 1) (va_up ea np i0) (va_up eb np j0) (va_up li np k0) rn (waL L) L.length sT sP ak ap af tt ac ct rp rt ([]) ([]))) (y := wy_W t L) hM
    refine W.eq (g2 := F0 m 241 ls [.int (nI np), .int (nI np)]) rfl ?_
    refine lv_icmp_eq (tgt := 652) C0.1 C0.2.1 d_law_241 (by decide) (fun _ => ?_) (fun c_241 => ?_)
    · skip
      exact W.widen (by omega) (by omega) (K _ _ _ _ _ _ _ _ _ _ _ _ _ _ _ _ _ _ _ _ _ _ _ _ _ _ _ _ _ _ _ (LInv_pipe hI p1 p2 p8 p6 p7 (by omega)) _ _ hB)
    · exact absurd (rfl) c_241
  · skip
    refine lv_aload_n C0.1 C0.2.1 d_law_173 rfl (lv_at hl 1 rfl) ?_
    refine lv_aload_n C0.1 C0.2.1 d_law_174 rfl (lv_at hl 0 rfl) ?_
    refine lv_iload_n C0.1 C0.2.1 d_law_175 rfl (lv_at hl 3 rfl) ?_
    refine lv_iconst (v := nI 1) C0.1 C0.2.1 d_law_176 (by decide) ?_
    refine lv_iadd C0.1 C0.2.1 d_law_177 ?_
    refine ti (show (nI (5 * i)) + (nI 1) = nI (5 * i + 1) from nI_add _ _) ?_
    refine sld C0 hX hbl hbA hB (show 5 * i + 1 < Ls by omega) (by omega) d_law_178 ?_
    refine lv_aload_n C0.1 C0.2.1 d_law_179 rfl (lv_at hl 0 rfl) ?_
    refine lv_iload_n C0.1 C0.2.1 d_law_180 rfl (lv_at hl 3 rfl) ?_
    refine lv_iconst (v := nI 2) C0.1 C0.2.1 d_law_181 (by decide) ?_
    refine lv_iadd C0.1 C0.2.1 d_law_182 ?_
    refine ti (show (nI (5 * i)) + (nI 2) = nI (5 * i + 2) from nI_add _ _) ?_
    refine sld C0 hX hbl hbA hB (show 5 * i + 2 < Ls by omega) (by omega) d_law_183 ?_
    refine lv_aload_n C0.1 C0.2.1 d_law_184 rfl (lv_at hl 0 rfl) ?_
    refine lv_iload_n C0.1 C0.2.1 d_law_185 rfl (lv_at hl 3 rfl) ?_
    refine lv_iconst (v := nI 3) C0.1 C0.2.1 d_law_186 (by decide) ?_
    refine lv_iadd C0.1 C0.2.1 d_law_187 ?_
    refine ti (show (nI (5 * i)) + (nI 3) = nI (5 * i + 3) from nI_add _ _) ?_
    refine sld C0 hX hbl hbA hB (show 5 * i + 3 < Ls by omega) (by omega) d_law_188 ?_
    refine lv_i2l C0.1 C0.2.1 d_law_189 rfl ?_
    refine lv_bipush (v := nI 32) C0.1 C0.2.1 d_law_190 (by decide) ?_
    refine lv_lshl C0.1 C0.2.1 d_law_192 rfl ?_
    refine lv_aload_n C0.1 C0.2.1 d_law_193 rfl (lv_at hl 0 rfl) ?_
    refine lv_iload_n C0.1 C0.2.1 d_law_194 rfl (lv_at hl 3 rfl) ?_
    refine lv_iconst (v := nI 4) C0.1 C0.2.1 d_law_195 (by decide) ?_
    refine lv_iadd C0.1 C0.2.1 d_law_196 ?_
    refine ti (show (nI (5 * i)) + (nI 4) = nI (5 * i + 4) from nI_add _ _) ?_
    refine sld C0 hX hbl hbA hB (show 5 * i + 4 < Ls by omega) (by omega) d_law_197 ?_
    refine lv_i2l C0.1 C0.2.1 d_law_198 rfl ?_
    refine lv_ldc2 C0.1 C0.2.1 C0.2.2.2.1 (C0.2.2.2.2.1 _ k_LW_27) d_law_199 ?_
    refine tl (show (4294967295 : Int64) = lN 4294967295 from rfl) ?_
    refine lv_land C0.1 C0.2.1 d_law_202 ?_
    refine lv_lor C0.1 C0.2.1 d_law_203 ?_
    refine cR (As := [.int (xs (5 * i + 1)), .int (xs (5 * i + 2)), .long ((((xs (5 * i + 3)).toInt64) <<< ((nI 32).toInt64 &&& 63)) ||| (((xs (5 * i + 4)).toInt64) &&& (lN 4294967295)))]) (rest := []) C0 (c_WS_pipe_no _ _ _ h1 hr) (q_LW_29 C0.2.2.2.2.1 rfl rfl ⟨Nat.le_of_ble_eq_true rfl, Nat.le_of_ble_eq_true rfl⟩) (ci := 0) (q0 := 0) rfl rfl rfl hB.1 hl.1 rfl rfl (Nat.le_of_ble_eq_true rfl) d_law_204 ⟨(show cells ≤ 600000 by omega), (show slots ≤ 7302250 by omega)⟩ ?_
    refine W.eq (g2 := F0 m 207 ls [.int (pipR n np (xs (5 * i + 1)) (xs (5 * i + 2)) ((((xs (5 * i + 3)).toInt64) <<< ((nI 32).toInt64 &&& 63)) ||| (((xs (5 * i + 4)).toInt64) &&& (lN 4294967295))))]) rfl ?_
    refine lv_aload_n C0.1 C0.2.1 d_law_207 rfl (lv_at hl 2 rfl) ?_
    refine lv_aload_n C0.1 C0.2.1 d_law_208 rfl (lv_at hl 0 rfl) ?_
    refine lv_iload_n C0.1 C0.2.1 d_law_209 rfl (lv_at hl 3 rfl) ?_
    refine lv_iconst (v := nI 1) C0.1 C0.2.1 d_law_210 (by decide) ?_
    refine lv_iadd C0.1 C0.2.1 d_law_211 ?_
    refine ti (show (nI (5 * i)) + (nI 1) = nI (5 * i + 1) from nI_add _ _) ?_
    refine sld C0 hX hbl hbA hB (show 5 * i + 1 < Ls by omega) (by omega) d_law_212 ?_
    refine lv_aload_n C0.1 C0.2.1 d_law_213 rfl (lv_at hl 0 rfl) ?_
    refine lv_iload_n C0.1 C0.2.1 d_law_214 rfl (lv_at hl 3 rfl) ?_
    refine lv_iconst (v := nI 2) C0.1 C0.2.1 d_law_215 (by decide) ?_
    refine lv_iadd C0.1 C0.2.1 d_law_216 ?_
    refine ti (show (nI (5 * i)) + (nI 2) = nI (5 * i + 2) from nI_add _ _) ?_
    refine sld C0 hX hbl hbA hB (show 5 * i + 2 < Ls by omega) (by omega) d_law_217 ?_
    refine lv_aload_n C0.1 C0.2.1 d_law_218 rfl (lv_at hl 0 rfl) ?_
    refine lv_iload_n C0.1 C0.2.1 d_law_219 rfl (lv_at hl 3 rfl) ?_
    refine lv_iconst (v := nI 3) C0.1 C0.2.1 d_law_220 (by decide) ?_
    refine lv_iadd C0.1 C0.2.1 d_law_221 ?_
    refine ti (show (nI (5 * i)) + (nI 3) = nI (5 * i + 3) from nI_add _ _) ?_
    refine sld C0 hX hbl hbA hB (show 5 * i + 3 < Ls by omega) (by omega) d_law_222 ?_
    refine lv_i2l C0.1 C0.2.1 d_law_223 rfl ?_
    refine lv_bipush (v := nI 32) C0.1 C0.2.1 d_law_224 (by decide) ?_
    refine lv_lshl C0.1 C0.2.1 d_law_226 rfl ?_
    refine lv_aload_n C0.1 C0.2.1 d_law_227 rfl (lv_at hl 0 rfl) ?_
    refine lv_iload_n C0.1 C0.2.1 d_law_228 rfl (lv_at hl 3 rfl) ?_
    refine lv_iconst (v := nI 4) C0.1 C0.2.1 d_law_229 (by decide) ?_
    refine lv_iadd C0.1 C0.2.1 d_law_230 ?_
    refine ti (show (nI (5 * i)) + (nI 4) = nI (5 * i + 4) from nI_add _ _) ?_
    refine sld C0 hX hbl hbA hB (show 5 * i + 4 < Ls by omega) (by omega) d_law_231 ?_
    refine lv_i2l C0.1 C0.2.1 d_law_232 rfl ?_
    refine lv_ldc2 C0.1 C0.2.1 C0.2.2.2.1 (C0.2.2.2.2.1 _ k_LW_27) d_law_233 ?_
    refine tl (show (4294967295 : Int64) = lN 4294967295 from rfl) ?_
    refine lv_land C0.1 C0.2.1 d_law_236 ?_
    refine lv_lor C0.1 C0.2.1 d_law_237 ?_
    have hM : wB g classes A s.heap (mW bb t n kd em br ii oo np ea eb li rn wp wl wf wt L.length ct2 sT2 sP2 sa sb ((wW a t n kd em br ii oo np ea eb li rn (waL L) L.length sT sP ak ap af tt ac ct rp rt ([]) ([])) ++ wy_W t L)) _ _ := wB.rot (a := (wW a t n kd em br ii oo np ea eb li rn (waL L) L.length sT sP ak ap af tt ac ct rp rt ([]) ([]))) (b := (mW bb t n kd em br ii oo np ea eb li rn wp wl wf wt L.length ct2 sT2 sP2 sa sb ([]))) (y := wy_W t L) hB
    refine cR (As := [.int (xs (5 * i + 1)), .int (xs (5 * i + 2)), .long ((((xs (5 * i + 3)).toInt64) <<< ((nI 32).toInt64 &&& 63)) ||| (((xs (5 * i + 4)).toInt64) &&& (lN 4294967295)))]) (rest := [.int (pipR n np (xs (5 * i + 1)) (xs (5 * i + 2)) ((((xs (5 * i + 3)).toInt64) <<< ((nI 32).toInt64 &&& 63)) ||| (((xs (5 * i + 4)).toInt64) &&& (lN 4294967295))))]) C0 (c_MO_pipe_no _ _ _ h1 h2 hr) (q_LW_33 C0.2.2.2.2.1 rfl rfl ⟨Nat.le_of_ble_eq_true rfl, Nat.le_of_ble_eq_true rfl⟩) (ci := 5) (q0 := 0) rfl rfl rfl hM.1 hl.1 rfl rfl (Nat.le_of_ble_eq_true rfl) d_law_238 ⟨(show cells ≤ 600000 by omega), (show slots ≤ 7302250 by omega)⟩ ?_
    refine W.eq (g2 := F0 m 241 ls [.int (pipR n np (xs (5 * i + 1)) (xs (5 * i + 2)) ((((xs (5 * i + 3)).toInt64) <<< ((nI 32).toInt64 &&& 63)) ||| (((xs (5 * i + 4)).toInt64) &&& (lN 4294967295)))), .int (pipR n np (xs (5 * i + 1)) (xs (5 * i + 2)) ((((xs (5 * i + 3)).toInt64) <<< ((nI 32).toInt64 &&& 63)) ||| (((xs (5 * i + 4)).toInt64) &&& (lN 4294967295))))]) rfl ?_
    refine lv_icmp_eq (tgt := 652) C0.1 C0.2.1 d_law_241 (by decide) (fun _ => ?_) (fun c_241 => ?_)
    · skip
      exact W.widen (by omega) (by omega) (K _ _ _ _ _ _ _ _ _ _ _ _ _ _ _ _ _ _ _ _ _ _ _ _ _ _ _ _ _ _ _ (hI) _ _ hB)
    · exact absurd (rfl) c_241
set_option maxHeartbeats 4000000 in
set_option maxRecDepth 100000 in
theorem lc_4 {p : Program} {l : Launch} {e : Env} {s : State} {m : MethodId} {below : List Frame} {meth : Method} {c : Code} {g : va_G} {t : Nat → ClassId} {a bb : Nat → Nat} {b0 Ls : Nat} {xs : Nat → Int32} {A : Nat → Prop} (C0 : cX p m c code 4 s #[Value.ref b0] R_LW g classes (tyL t)) (hX : va_X b0 Ls xs s s.heap) (hbl : b0 < s.heap.size) (hbA : ¬ A b0) (hLs : Ls ≤ 2560) {i : Nat} (hi : 5 * i + 5 ≤ Ls) {ls : Array Slot} (hl : lv_has ls 4 [(0, .ref b0), (1, .ref (a 0)), (2, .ref (bb 0)), (3, .int (nI (5 * i)))]) {cells slots : Nat} (hcc : cells + 6 ≤ 600000) (hss : slots + 200 ≤ 7302250) {Q : State → Prop} {n : Nat} {kd : Nat → Nat} {em : Nat → Bool} {br : Nat → Bool} {ii : Nat → Int32} {oo : Nat → Int32} {np : Nat} {ea : Nat → Nat} {eb : Nat → Nat} {li : Nat → Nat} {rn : Nat → Bool} {sT : Nat → Bool} {sP : Nat → Bool} {ak : Nat} {ap : Nat → Nat} {af : Nat → Nat} {tt : Nat → Nat} {ac : Nat → Nat} {ct : Nat → Nat} {rp : Nat → Nat} {rt : Nat → Nat} {L : List Wy} {wp : Nat → Nat} {wl : Nat → Nat} {wf : Nat → Nat} {wt : Nat → Nat} {ct2 : Nat → Nat} {sT2 : Nat → Bool} {sP2 : Nat → Bool} {sa : Nat → Nat} {sb : Nat → Nat} {H : Heap} {locs : List Loc} (hI : LInv n kd em br np ea eb li rn L wp wl wf wt) (hB : wB g classes A s.heap (wW a t n kd em br ii oo np ea eb li rn (waL L) L.length sT sP ak ap af tt ac ct rp rt (mW bb t n kd em br ii oo np ea eb li rn wp wl wf wt L.length ct2 sT2 sP2 sa sb ([])) L) H locs) (K : ∀ (n : Nat) (kd : Nat → Nat) (em : Nat → Bool) (br : Nat → Bool) (ii : Nat → Int32) (oo : Nat → Int32) (np : Nat) (ea : Nat → Nat) (eb : Nat → Nat) (li : Nat → Nat) (rn : Nat → Bool) (sT : Nat → Bool) (sP : Nat → Bool) (ak : Nat) (ap : Nat → Nat) (af : Nat → Nat) (tt : Nat → Nat) (ac : Nat → Nat) (ct : Nat → Nat) (rp : Nat → Nat) (rt : Nat → Nat) (L : List Wy) (wp : Nat → Nat) (wl : Nat → Nat) (wf : Nat → Nat) (wt : Nat → Nat) (ct2 : Nat → Nat) (sT2 : Nat → Bool) (sP2 : Nat → Bool) (sa : Nat → Nat) (sb : Nat → Nat), LInv n kd em br np ea eb li rn L wp wl wf wt → ∀ (H : Heap) (locs : List Loc), wB g classes A s.heap (wW a t n kd em br ii oo np ea eb li rn (waL L) L.length sT sP ak ap af tt ac ct rp rt (mW bb t n kd em br ii oo np ea eb li rn wp wl wf wt L.length ct2 sT2 sP2 sa sb ([])) L) H locs → W p l e room_1 s m #[Value.ref b0] below meth c H locs (cells + 6) (slots + 200) Q (F0 m 652 ls [])) : W p l e room_1 s m #[Value.ref b0] below meth c H locs cells slots Q (F0 m 246 ls []) := by
  obtain ⟨⟨h1, h2, h3, h4, h5, h6, h7, h8, h9, h10⟩, g1, g2, g3⟩ := id hI
  by_cases hr : hasB np (xs (5 * i + 1)) = true
  · obtain ⟨j0, p1, p2⟩ := hasB_ex (by omega) hr
    refine lv_aload_n C0.1 C0.2.1 d_law_246 rfl (lv_at hl 1 rfl) ?_
    refine lv_aload_n C0.1 C0.2.1 d_law_247 rfl (lv_at hl 0 rfl) ?_
    refine lv_iload_n C0.1 C0.2.1 d_law_248 rfl (lv_at hl 3 rfl) ?_
    refine lv_iconst (v := nI 1) C0.1 C0.2.1 d_law_249 (by decide) ?_
    refine lv_iadd C0.1 C0.2.1 d_law_250 ?_
    refine ti (show (nI (5 * i)) + (nI 1) = nI (5 * i + 1) from nI_add _ _) ?_
    refine sld C0 hX hbl hbA hB (show 5 * i + 1 < Ls by omega) (by omega) d_law_251 ?_
    refine lv_aload_n C0.1 C0.2.1 d_law_252 rfl (lv_at hl 0 rfl) ?_
    refine lv_iload_n C0.1 C0.2.1 d_law_253 rfl (lv_at hl 3 rfl) ?_
    refine lv_iconst (v := nI 2) C0.1 C0.2.1 d_law_254 (by decide) ?_
    refine lv_iadd C0.1 C0.2.1 d_law_255 ?_
    refine ti (show (nI (5 * i)) + (nI 2) = nI (5 * i + 2) from nI_add _ _) ?_
    refine sld C0 hX hbl hbA hB (show 5 * i + 2 < Ls by omega) (by omega) d_law_256 ?_
    refine wcut (g2 := F0 m 265 ls [.int (bI (decide (¬ xs (5 * i + 2) = 0))), .int (xs (5 * i + 1)), .ref (a 0)]) ?_ (fun T265 => ?_)
    · refine cM (As := [.int (xs (5 * i + 1)), .int (bI (decide (¬ xs (5 * i + 2) = 0)))]) (rest := []) C0 (Mt.as (c_WS_run j0 (decide (¬ xs (5 * i + 2) = 0)) h2 p1) (by rw [p2])) (q_LW_34 C0.2.2.2.2.1 rfl rfl ⟨Nat.le_of_ble_eq_true rfl, Nat.le_of_ble_eq_true rfl⟩) (ci := 0) (q0 := 0) rfl rfl rfl hB hl.1 rfl rfl (Nat.le_of_ble_eq_true rfl) d_law_265 ⟨(show cells + 0 ≤ 600000 by omega), (show slots + 0 ≤ 7302250 by omega)⟩ (fun v_265 u_265 H locs hp_265 hB => ?_)
      obtain rfl := hp_265
      have hB : wB g classes A s.heap (wW a t n kd em br ii oo np ea eb li (va_up rn j0 (decide (¬ xs (5 * i + 2) = 0))) (waL L) L.length sT sP ak ap af tt ac ct rp rt (mW bb t n kd em br ii oo np ea eb li rn wp wl wf wt L.length ct2 sT2 sP2 sa sb ([])) L) H locs := hB
      refine W.eq (g2 := F0 m 268 ls [.int (bI (decide (¬ rn j0 = (decide (¬ xs (5 * i + 2) = 0)))))]) rfl ?_
      refine lv_aload_n C0.1 C0.2.1 d_law_268 rfl (lv_at hl 2 rfl) ?_
      refine lv_aload_n C0.1 C0.2.1 d_law_269 rfl (lv_at hl 0 rfl) ?_
      refine lv_iload_n C0.1 C0.2.1 d_law_270 rfl (lv_at hl 3 rfl) ?_
      refine lv_iconst (v := nI 1) C0.1 C0.2.1 d_law_271 (by decide) ?_
      refine lv_iadd C0.1 C0.2.1 d_law_272 ?_
      refine ti (show (nI (5 * i)) + (nI 1) = nI (5 * i + 1) from nI_add _ _) ?_
      refine sld C0 hX hbl hbA hB (show 5 * i + 1 < Ls by omega) (by omega) d_law_273 ?_
      refine lv_aload_n C0.1 C0.2.1 d_law_274 rfl (lv_at hl 0 rfl) ?_
      refine lv_iload_n C0.1 C0.2.1 d_law_275 rfl (lv_at hl 3 rfl) ?_
      refine lv_iconst (v := nI 2) C0.1 C0.2.1 d_law_276 (by decide) ?_
      refine lv_iadd C0.1 C0.2.1 d_law_277 ?_
      refine ti (show (nI (5 * i)) + (nI 2) = nI (5 * i + 2) from nI_add _ _) ?_
      refine sld C0 hX hbl hbA hB (show 5 * i + 2 < Ls by omega) (by omega) d_law_278 ?_
      refine wcut (g2 := F0 m 287 ls [.int (bI (decide (¬ xs (5 * i + 2) = 0))), .int (xs (5 * i + 1)), .ref (bb 0), .int (bI (decide (¬ rn j0 = (decide (¬ xs (5 * i + 2) = 0)))))]) ?_ (fun T287 => ?_)
      · have hM : wB g classes A s.heap (mW bb t n kd em br ii oo np ea eb li rn wp wl wf wt L.length ct2 sT2 sP2 sa sb ((wW a t n kd em br ii oo np ea eb li (va_up rn j0 (decide (¬ xs (5 * i + 2) = 0))) (waL L) L.length sT sP ak ap af tt ac ct rp rt ([]) ([])) ++ wy_W t L)) _ _ := wB.rot (a := (wW a t n kd em br ii oo np ea eb li (va_up rn j0 (decide (¬ xs (5 * i + 2) = 0))) (waL L) L.length sT sP ak ap af tt ac ct rp rt ([]) ([]))) (b := (mW bb t n kd em br ii oo np ea eb li rn wp wl wf wt L.length ct2 sT2 sP2 sa sb ([]))) (y := wy_W t L) hB
        refine cM (As := [.int (xs (5 * i + 1)), .int (bI (decide (¬ xs (5 * i + 2) = 0)))]) (rest := [.int (bI (decide (¬ rn j0 = (decide (¬ xs (5 * i + 2) = 0)))))]) C0 (Mt.as (c_MO_run j0 (decide (¬ xs (5 * i + 2) = 0)) h2 p1) (by rw [p2])) (q_LW_38 C0.2.2.2.2.1 rfl rfl ⟨Nat.le_of_ble_eq_true rfl, Nat.le_of_ble_eq_true rfl⟩) (ci := 5) (q0 := 0) rfl rfl rfl hM hl.1 rfl rfl (Nat.le_of_ble_eq_true rfl) d_law_287 ⟨(show cells + 0 + 0 ≤ 600000 by omega), (show slots + 0 + 0 ≤ 7302250 by omega)⟩ (fun v_287 u_287 H locs hp_287 hB => ?_)
        obtain rfl := hp_287
        have hM : wB g classes A s.heap (mW bb t n kd em br ii oo np ea eb li (va_up rn j0 (decide (¬ xs (5 * i + 2) = 0))) wp wl wf wt L.length ct2 sT2 sP2 sa sb ((wW a t n kd em br ii oo np ea eb li (va_up rn j0 (decide (¬ xs (5 * i + 2) = 0))) (waL L) L.length sT sP ak ap af tt ac ct rp rt ([]) ([])) ++ wy_W t L)) H locs := hB
        have hB : wB g classes A s.heap (wW a t n kd em br ii oo np ea eb li (va_up rn j0 (decide (¬ xs (5 * i + 2) = 0))) (waL L) L.length sT sP ak ap af tt ac ct rp rt (mW bb t n kd em br ii oo np ea eb li (va_up rn j0 (decide (¬ xs (5 * i + 2) = 0))) wp wl wf wt L.length ct2 sT2 sP2 sa sb ([])) L) H locs := wB.rot (a := (mW bb t n kd em br ii oo np ea eb li (va_up rn j0 (decide (¬ xs (5 * i + 2) = 0))) wp wl wf wt L.length ct2 sT2 sP2 sa sb ([]))) (b := (wW a t n kd em br ii oo np ea eb li (va_up rn j0 (decide (¬ xs (5 * i + 2) = 0))) (waL L) L.length sT sP ak ap af tt ac ct rp rt ([]) ([]))) (y := wy_W t L) hM
        refine W.eq (g2 := F0 m 290 ls [.int (bI (decide (¬ rn j0 = (decide (¬ xs (5 * i + 2) = 0))))), .int (bI (decide (¬ rn j0 = (decide (¬ xs (5 * i + 2) = 0)))))]) rfl ?_
        refine lv_icmp_eq (tgt := 652) C0.1 C0.2.1 d_law_290 (by decide) (fun _ => ?_) (fun c_290 => ?_)
        · skip
          exact W.widen (by omega) (by omega) (K _ _ _ _ _ _ _ _ _ _ _ _ _ _ _ _ _ _ _ _ _ _ _ _ _ _ _ _ _ _ _ (LInv_run hI p1) _ _ hB)
        · exact absurd (rfl) c_290
      · refine lv_if_eq (tgt := 286) C0.1 C0.2.1 d_law_279 (by decide) (fun c_279 => ?_) (fun c_279 => ?_)
        · refine lv_iconst (v := nI 0) C0.1 C0.2.1 d_law_286 (by decide) ?_
          exact ti (show nI 0 = bI (decide (¬ xs (5 * i + 2) = 0)) from by rw [decide_eq_false (fun q => q c_279)]; rfl) T287
        · refine lv_iconst (v := nI 1) C0.1 C0.2.1 d_law_282 (by decide) ?_
          refine lv_goto (tgt := 287) C0.1 C0.2.1 d_law_283 (by decide) ?_
          exact ti (show nI 1 = bI (decide (¬ xs (5 * i + 2) = 0)) from by rw [decide_eq_true (show ¬ xs (5 * i + 2) = 0 from c_279)]; rfl) T287
    · refine lv_if_eq (tgt := 264) C0.1 C0.2.1 d_law_257 (by decide) (fun c_257 => ?_) (fun c_257 => ?_)
      · refine lv_iconst (v := nI 0) C0.1 C0.2.1 d_law_264 (by decide) ?_
        exact ti (show nI 0 = bI (decide (¬ xs (5 * i + 2) = 0)) from by rw [decide_eq_false (fun q => q c_257)]; rfl) T265
      · refine lv_iconst (v := nI 1) C0.1 C0.2.1 d_law_260 (by decide) ?_
        refine lv_goto (tgt := 265) C0.1 C0.2.1 d_law_261 (by decide) ?_
        exact ti (show nI 1 = bI (decide (¬ xs (5 * i + 2) = 0)) from by rw [decide_eq_true (show ¬ xs (5 * i + 2) = 0 from c_257)]; rfl) T265
  · have hr := Bool.eq_false_iff.mpr hr
    refine lv_aload_n C0.1 C0.2.1 d_law_246 rfl (lv_at hl 1 rfl) ?_
    refine lv_aload_n C0.1 C0.2.1 d_law_247 rfl (lv_at hl 0 rfl) ?_
    refine lv_iload_n C0.1 C0.2.1 d_law_248 rfl (lv_at hl 3 rfl) ?_
    refine lv_iconst (v := nI 1) C0.1 C0.2.1 d_law_249 (by decide) ?_
    refine lv_iadd C0.1 C0.2.1 d_law_250 ?_
    refine ti (show (nI (5 * i)) + (nI 1) = nI (5 * i + 1) from nI_add _ _) ?_
    refine sld C0 hX hbl hbA hB (show 5 * i + 1 < Ls by omega) (by omega) d_law_251 ?_
    refine lv_aload_n C0.1 C0.2.1 d_law_252 rfl (lv_at hl 0 rfl) ?_
    refine lv_iload_n C0.1 C0.2.1 d_law_253 rfl (lv_at hl 3 rfl) ?_
    refine lv_iconst (v := nI 2) C0.1 C0.2.1 d_law_254 (by decide) ?_
    refine lv_iadd C0.1 C0.2.1 d_law_255 ?_
    refine ti (show (nI (5 * i)) + (nI 2) = nI (5 * i + 2) from nI_add _ _) ?_
    refine sld C0 hX hbl hbA hB (show 5 * i + 2 < Ls by omega) (by omega) d_law_256 ?_
    refine wcut (g2 := F0 m 265 ls [.int (bI (decide (¬ xs (5 * i + 2) = 0))), .int (xs (5 * i + 1)), .ref (a 0)]) ?_ (fun T265 => ?_)
    · refine cR (As := [.int (xs (5 * i + 1)), .int (bI (decide (¬ xs (5 * i + 2) = 0)))]) (rest := []) C0 (c_WS_run_no _ (decide (¬ xs (5 * i + 2) = 0)) h2 hr) (q_LW_34 C0.2.2.2.2.1 rfl rfl ⟨Nat.le_of_ble_eq_true rfl, Nat.le_of_ble_eq_true rfl⟩) (ci := 0) (q0 := 0) rfl rfl rfl hB.1 hl.1 rfl rfl (Nat.le_of_ble_eq_true rfl) d_law_265 ⟨(show cells ≤ 600000 by omega), (show slots ≤ 7302250 by omega)⟩ ?_
      refine W.eq (g2 := F0 m 268 ls [.int (bI false)]) rfl ?_
      refine lv_aload_n C0.1 C0.2.1 d_law_268 rfl (lv_at hl 2 rfl) ?_
      refine lv_aload_n C0.1 C0.2.1 d_law_269 rfl (lv_at hl 0 rfl) ?_
      refine lv_iload_n C0.1 C0.2.1 d_law_270 rfl (lv_at hl 3 rfl) ?_
      refine lv_iconst (v := nI 1) C0.1 C0.2.1 d_law_271 (by decide) ?_
      refine lv_iadd C0.1 C0.2.1 d_law_272 ?_
      refine ti (show (nI (5 * i)) + (nI 1) = nI (5 * i + 1) from nI_add _ _) ?_
      refine sld C0 hX hbl hbA hB (show 5 * i + 1 < Ls by omega) (by omega) d_law_273 ?_
      refine lv_aload_n C0.1 C0.2.1 d_law_274 rfl (lv_at hl 0 rfl) ?_
      refine lv_iload_n C0.1 C0.2.1 d_law_275 rfl (lv_at hl 3 rfl) ?_
      refine lv_iconst (v := nI 2) C0.1 C0.2.1 d_law_276 (by decide) ?_
      refine lv_iadd C0.1 C0.2.1 d_law_277 ?_
      refine ti (show (nI (5 * i)) + (nI 2) = nI (5 * i + 2) from nI_add _ _) ?_
      refine sld C0 hX hbl hbA hB (show 5 * i + 2 < Ls by omega) (by omega) d_law_278 ?_
      refine wcut (g2 := F0 m 287 ls [.int (bI (decide (¬ xs (5 * i + 2) = 0))), .int (xs (5 * i + 1)), .ref (bb 0), .int (bI false)]) ?_ (fun T287 => ?_)
      · have hM : wB g classes A s.heap (mW bb t n kd em br ii oo np ea eb li rn wp wl wf wt L.length ct2 sT2 sP2 sa sb ((wW a t n kd em br ii oo np ea eb li rn (waL L) L.length sT sP ak ap af tt ac ct rp rt ([]) ([])) ++ wy_W t L)) _ _ := wB.rot (a := (wW a t n kd em br ii oo np ea eb li rn (waL L) L.length sT sP ak ap af tt ac ct rp rt ([]) ([]))) (b := (mW bb t n kd em br ii oo np ea eb li rn wp wl wf wt L.length ct2 sT2 sP2 sa sb ([]))) (y := wy_W t L) hB
        refine cR (As := [.int (xs (5 * i + 1)), .int (bI (decide (¬ xs (5 * i + 2) = 0)))]) (rest := [.int (bI false)]) C0 (c_MO_run_no _ (decide (¬ xs (5 * i + 2) = 0)) h2 hr) (q_LW_38 C0.2.2.2.2.1 rfl rfl ⟨Nat.le_of_ble_eq_true rfl, Nat.le_of_ble_eq_true rfl⟩) (ci := 5) (q0 := 0) rfl rfl rfl hM.1 hl.1 rfl rfl (Nat.le_of_ble_eq_true rfl) d_law_287 ⟨(show cells ≤ 600000 by omega), (show slots ≤ 7302250 by omega)⟩ ?_
        refine W.eq (g2 := F0 m 290 ls [.int (bI false), .int (bI false)]) rfl ?_
        refine lv_icmp_eq (tgt := 652) C0.1 C0.2.1 d_law_290 (by decide) (fun _ => ?_) (fun c_290 => ?_)
        · skip
          exact W.widen (by omega) (by omega) (K _ _ _ _ _ _ _ _ _ _ _ _ _ _ _ _ _ _ _ _ _ _ _ _ _ _ _ _ _ _ _ (hI) _ _ hB)
        · exact absurd (rfl) c_290
      · refine lv_if_eq (tgt := 286) C0.1 C0.2.1 d_law_279 (by decide) (fun c_279 => ?_) (fun c_279 => ?_)
        · refine lv_iconst (v := nI 0) C0.1 C0.2.1 d_law_286 (by decide) ?_
          exact ti (show nI 0 = bI (decide (¬ xs (5 * i + 2) = 0)) from by rw [decide_eq_false (fun q => q c_279)]; rfl) T287
        · refine lv_iconst (v := nI 1) C0.1 C0.2.1 d_law_282 (by decide) ?_
          refine lv_goto (tgt := 287) C0.1 C0.2.1 d_law_283 (by decide) ?_
          exact ti (show nI 1 = bI (decide (¬ xs (5 * i + 2) = 0)) from by rw [decide_eq_true (show ¬ xs (5 * i + 2) = 0 from c_279)]; rfl) T287
    · refine lv_if_eq (tgt := 264) C0.1 C0.2.1 d_law_257 (by decide) (fun c_257 => ?_) (fun c_257 => ?_)
      · refine lv_iconst (v := nI 0) C0.1 C0.2.1 d_law_264 (by decide) ?_
        exact ti (show nI 0 = bI (decide (¬ xs (5 * i + 2) = 0)) from by rw [decide_eq_false (fun q => q c_257)]; rfl) T265
      · refine lv_iconst (v := nI 1) C0.1 C0.2.1 d_law_260 (by decide) ?_
        refine lv_goto (tgt := 265) C0.1 C0.2.1 d_law_261 (by decide) ?_
        exact ti (show nI 1 = bI (decide (¬ xs (5 * i + 2) = 0)) from by rw [decide_eq_true (show ¬ xs (5 * i + 2) = 0 from c_257)]; rfl) T265
set_option maxHeartbeats 4000000 in
set_option maxRecDepth 100000 in
theorem lc_5 {p : Program} {l : Launch} {e : Env} {s : State} {m : MethodId} {below : List Frame} {meth : Method} {c : Code} {g : va_G} {t : Nat → ClassId} {a bb : Nat → Nat} {b0 Ls : Nat} {xs : Nat → Int32} {A : Nat → Prop} (C0 : cX p m c code 4 s #[Value.ref b0] R_LW g classes (tyL t)) (hX : va_X b0 Ls xs s s.heap) (hbl : b0 < s.heap.size) (hbA : ¬ A b0) (hLs : Ls ≤ 2560) {i : Nat} (hi : 5 * i + 5 ≤ Ls) {ls : Array Slot} (hl : lv_has ls 4 [(0, .ref b0), (1, .ref (a 0)), (2, .ref (bb 0)), (3, .int (nI (5 * i)))]) {cells slots : Nat} (hcc : cells + 6 ≤ 600000) (hss : slots + 200 ≤ 7302250) {Q : State → Prop} {n : Nat} {kd : Nat → Nat} {em : Nat → Bool} {br : Nat → Bool} {ii : Nat → Int32} {oo : Nat → Int32} {np : Nat} {ea : Nat → Nat} {eb : Nat → Nat} {li : Nat → Nat} {rn : Nat → Bool} {sT : Nat → Bool} {sP : Nat → Bool} {ak : Nat} {ap : Nat → Nat} {af : Nat → Nat} {tt : Nat → Nat} {ac : Nat → Nat} {ct : Nat → Nat} {rp : Nat → Nat} {rt : Nat → Nat} {L : List Wy} {wp : Nat → Nat} {wl : Nat → Nat} {wf : Nat → Nat} {wt : Nat → Nat} {ct2 : Nat → Nat} {sT2 : Nat → Bool} {sP2 : Nat → Bool} {sa : Nat → Nat} {sb : Nat → Nat} {H : Heap} {locs : List Loc} (hI : LInv n kd em br np ea eb li rn L wp wl wf wt) (hB : wB g classes A s.heap (wW a t n kd em br ii oo np ea eb li rn (waL L) L.length sT sP ak ap af tt ac ct rp rt (mW bb t n kd em br ii oo np ea eb li rn wp wl wf wt L.length ct2 sT2 sP2 sa sb ([])) L) H locs) (K : ∀ (n : Nat) (kd : Nat → Nat) (em : Nat → Bool) (br : Nat → Bool) (ii : Nat → Int32) (oo : Nat → Int32) (np : Nat) (ea : Nat → Nat) (eb : Nat → Nat) (li : Nat → Nat) (rn : Nat → Bool) (sT : Nat → Bool) (sP : Nat → Bool) (ak : Nat) (ap : Nat → Nat) (af : Nat → Nat) (tt : Nat → Nat) (ac : Nat → Nat) (ct : Nat → Nat) (rp : Nat → Nat) (rt : Nat → Nat) (L : List Wy) (wp : Nat → Nat) (wl : Nat → Nat) (wf : Nat → Nat) (wt : Nat → Nat) (ct2 : Nat → Nat) (sT2 : Nat → Bool) (sP2 : Nat → Bool) (sa : Nat → Nat) (sb : Nat → Nat), LInv n kd em br np ea eb li rn L wp wl wf wt → ∀ (H : Heap) (locs : List Loc), wB g classes A s.heap (wW a t n kd em br ii oo np ea eb li rn (waL L) L.length sT sP ak ap af tt ac ct rp rt (mW bb t n kd em br ii oo np ea eb li rn wp wl wf wt L.length ct2 sT2 sP2 sa sb ([])) L) H locs → W p l e room_1 s m #[Value.ref b0] below meth c H locs (cells + 6) (slots + 200) Q (F0 m 652 ls [])) : W p l e room_1 s m #[Value.ref b0] below meth c H locs cells slots Q (F0 m 295 ls []) := by
  obtain ⟨⟨h1, h2, h3, h4, h5, h6, h7, h8, h9, h10⟩, g1, g2, g3⟩ := id hI
  by_cases hr : hasB n (xs (5 * i + 1)) = true
  · obtain ⟨j0, p1, p2⟩ := hasB_ex (by omega) hr
    refine lv_aload_n C0.1 C0.2.1 d_law_295 rfl (lv_at hl 1 rfl) ?_
    refine lv_aload_n C0.1 C0.2.1 d_law_296 rfl (lv_at hl 0 rfl) ?_
    refine lv_iload_n C0.1 C0.2.1 d_law_297 rfl (lv_at hl 3 rfl) ?_
    refine lv_iconst (v := nI 1) C0.1 C0.2.1 d_law_298 (by decide) ?_
    refine lv_iadd C0.1 C0.2.1 d_law_299 ?_
    refine ti (show (nI (5 * i)) + (nI 1) = nI (5 * i + 1) from nI_add _ _) ?_
    refine sld C0 hX hbl hbA hB (show 5 * i + 1 < Ls by omega) (by omega) d_law_300 ?_
    refine lv_aload_n C0.1 C0.2.1 d_law_301 rfl (lv_at hl 0 rfl) ?_
    refine lv_iload_n C0.1 C0.2.1 d_law_302 rfl (lv_at hl 3 rfl) ?_
    refine lv_iconst (v := nI 2) C0.1 C0.2.1 d_law_303 (by decide) ?_
    refine lv_iadd C0.1 C0.2.1 d_law_304 ?_
    refine ti (show (nI (5 * i)) + (nI 2) = nI (5 * i + 2) from nI_add _ _) ?_
    refine sld C0 hX hbl hbA hB (show 5 * i + 2 < Ls by omega) (by omega) d_law_305 ?_
    refine wcut (g2 := F0 m 314 ls [.int (bI (decide (¬ xs (5 * i + 2) = 0))), .int (xs (5 * i + 1)), .ref (a 0)]) ?_ (fun T314 => ?_)
    · refine cM (As := [.int (xs (5 * i + 1)), .int (bI (decide (¬ xs (5 * i + 2) = 0)))]) (rest := []) C0 (Mt.as (c_WS_bar j0 (decide (¬ xs (5 * i + 2) = 0)) h1 p1) (by rw [p2])) (q_LW_39 C0.2.2.2.2.1 rfl rfl ⟨Nat.le_of_ble_eq_true rfl, Nat.le_of_ble_eq_true rfl⟩) (ci := 0) (q0 := 0) rfl rfl rfl hB hl.1 rfl rfl (Nat.le_of_ble_eq_true rfl) d_law_314 ⟨(show cells + 0 ≤ 600000 by omega), (show slots + 0 ≤ 7302250 by omega)⟩ (fun v_314 u_314 H locs hp_314 hB => ?_)
      obtain rfl := hp_314
      have hB : wB g classes A s.heap (wW a t n kd em (va_up br j0 (decide (¬ xs (5 * i + 2) = 0))) ii oo np ea eb li rn (waL L) L.length sT sP ak ap af tt ac ct rp rt (mW bb t n kd em br ii oo np ea eb li rn wp wl wf wt L.length ct2 sT2 sP2 sa sb ([])) L) H locs := hB
      refine W.eq (g2 := F0 m 317 ls [.int (bI (decide (¬ br j0 = (decide (¬ xs (5 * i + 2) = 0)))))]) rfl ?_
      refine lv_aload_n C0.1 C0.2.1 d_law_317 rfl (lv_at hl 2 rfl) ?_
      refine lv_aload_n C0.1 C0.2.1 d_law_318 rfl (lv_at hl 0 rfl) ?_
      refine lv_iload_n C0.1 C0.2.1 d_law_319 rfl (lv_at hl 3 rfl) ?_
      refine lv_iconst (v := nI 1) C0.1 C0.2.1 d_law_320 (by decide) ?_
      refine lv_iadd C0.1 C0.2.1 d_law_321 ?_
      refine ti (show (nI (5 * i)) + (nI 1) = nI (5 * i + 1) from nI_add _ _) ?_
      refine sld C0 hX hbl hbA hB (show 5 * i + 1 < Ls by omega) (by omega) d_law_322 ?_
      refine lv_aload_n C0.1 C0.2.1 d_law_323 rfl (lv_at hl 0 rfl) ?_
      refine lv_iload_n C0.1 C0.2.1 d_law_324 rfl (lv_at hl 3 rfl) ?_
      refine lv_iconst (v := nI 2) C0.1 C0.2.1 d_law_325 (by decide) ?_
      refine lv_iadd C0.1 C0.2.1 d_law_326 ?_
      refine ti (show (nI (5 * i)) + (nI 2) = nI (5 * i + 2) from nI_add _ _) ?_
      refine sld C0 hX hbl hbA hB (show 5 * i + 2 < Ls by omega) (by omega) d_law_327 ?_
      refine wcut (g2 := F0 m 336 ls [.int (bI (decide (¬ xs (5 * i + 2) = 0))), .int (xs (5 * i + 1)), .ref (bb 0), .int (bI (decide (¬ br j0 = (decide (¬ xs (5 * i + 2) = 0)))))]) ?_ (fun T336 => ?_)
      · have hM : wB g classes A s.heap (mW bb t n kd em br ii oo np ea eb li rn wp wl wf wt L.length ct2 sT2 sP2 sa sb ((wW a t n kd em (va_up br j0 (decide (¬ xs (5 * i + 2) = 0))) ii oo np ea eb li rn (waL L) L.length sT sP ak ap af tt ac ct rp rt ([]) ([])) ++ wy_W t L)) _ _ := wB.rot (a := (wW a t n kd em (va_up br j0 (decide (¬ xs (5 * i + 2) = 0))) ii oo np ea eb li rn (waL L) L.length sT sP ak ap af tt ac ct rp rt ([]) ([]))) (b := (mW bb t n kd em br ii oo np ea eb li rn wp wl wf wt L.length ct2 sT2 sP2 sa sb ([]))) (y := wy_W t L) hB
        refine cM (As := [.int (xs (5 * i + 1)), .int (bI (decide (¬ xs (5 * i + 2) = 0)))]) (rest := [.int (bI (decide (¬ br j0 = (decide (¬ xs (5 * i + 2) = 0)))))]) C0 (Mt.as (c_MO_bar j0 (decide (¬ xs (5 * i + 2) = 0)) h1 p1) (by rw [p2])) (q_LW_42 C0.2.2.2.2.1 rfl rfl ⟨Nat.le_of_ble_eq_true rfl, Nat.le_of_ble_eq_true rfl⟩) (ci := 5) (q0 := 0) rfl rfl rfl hM hl.1 rfl rfl (Nat.le_of_ble_eq_true rfl) d_law_336 ⟨(show cells + 0 + 0 ≤ 600000 by omega), (show slots + 0 + 0 ≤ 7302250 by omega)⟩ (fun v_336 u_336 H locs hp_336 hB => ?_)
        obtain rfl := hp_336
        have hM : wB g classes A s.heap (mW bb t n kd em (va_up br j0 (decide (¬ xs (5 * i + 2) = 0))) ii oo np ea eb li rn wp wl wf wt L.length ct2 sT2 sP2 sa sb ((wW a t n kd em (va_up br j0 (decide (¬ xs (5 * i + 2) = 0))) ii oo np ea eb li rn (waL L) L.length sT sP ak ap af tt ac ct rp rt ([]) ([])) ++ wy_W t L)) H locs := hB
        have hB : wB g classes A s.heap (wW a t n kd em (va_up br j0 (decide (¬ xs (5 * i + 2) = 0))) ii oo np ea eb li rn (waL L) L.length sT sP ak ap af tt ac ct rp rt (mW bb t n kd em (va_up br j0 (decide (¬ xs (5 * i + 2) = 0))) ii oo np ea eb li rn wp wl wf wt L.length ct2 sT2 sP2 sa sb ([])) L) H locs := wB.rot (a := (mW bb t n kd em (va_up br j0 (decide (¬ xs (5 * i + 2) = 0))) ii oo np ea eb li rn wp wl wf wt L.length ct2 sT2 sP2 sa sb ([]))) (b := (wW a t n kd em (va_up br j0 (decide (¬ xs (5 * i + 2) = 0))) ii oo np ea eb li rn (waL L) L.length sT sP ak ap af tt ac ct rp rt ([]) ([]))) (y := wy_W t L) hM
        refine W.eq (g2 := F0 m 339 ls [.int (bI (decide (¬ br j0 = (decide (¬ xs (5 * i + 2) = 0))))), .int (bI (decide (¬ br j0 = (decide (¬ xs (5 * i + 2) = 0)))))]) rfl ?_
        refine lv_icmp_eq (tgt := 652) C0.1 C0.2.1 d_law_339 (by decide) (fun _ => ?_) (fun c_339 => ?_)
        · skip
          exact W.widen (by omega) (by omega) (K _ _ _ _ _ _ _ _ _ _ _ _ _ _ _ _ _ _ _ _ _ _ _ _ _ _ _ _ _ _ _ (LInv_bar hI p1) _ _ hB)
        · exact absurd (rfl) c_339
      · refine lv_if_eq (tgt := 335) C0.1 C0.2.1 d_law_328 (by decide) (fun c_328 => ?_) (fun c_328 => ?_)
        · refine lv_iconst (v := nI 0) C0.1 C0.2.1 d_law_335 (by decide) ?_
          exact ti (show nI 0 = bI (decide (¬ xs (5 * i + 2) = 0)) from by rw [decide_eq_false (fun q => q c_328)]; rfl) T336
        · refine lv_iconst (v := nI 1) C0.1 C0.2.1 d_law_331 (by decide) ?_
          refine lv_goto (tgt := 336) C0.1 C0.2.1 d_law_332 (by decide) ?_
          exact ti (show nI 1 = bI (decide (¬ xs (5 * i + 2) = 0)) from by rw [decide_eq_true (show ¬ xs (5 * i + 2) = 0 from c_328)]; rfl) T336
    · refine lv_if_eq (tgt := 313) C0.1 C0.2.1 d_law_306 (by decide) (fun c_306 => ?_) (fun c_306 => ?_)
      · refine lv_iconst (v := nI 0) C0.1 C0.2.1 d_law_313 (by decide) ?_
        exact ti (show nI 0 = bI (decide (¬ xs (5 * i + 2) = 0)) from by rw [decide_eq_false (fun q => q c_306)]; rfl) T314
      · refine lv_iconst (v := nI 1) C0.1 C0.2.1 d_law_309 (by decide) ?_
        refine lv_goto (tgt := 314) C0.1 C0.2.1 d_law_310 (by decide) ?_
        exact ti (show nI 1 = bI (decide (¬ xs (5 * i + 2) = 0)) from by rw [decide_eq_true (show ¬ xs (5 * i + 2) = 0 from c_306)]; rfl) T314
  · have hr := Bool.eq_false_iff.mpr hr
    refine lv_aload_n C0.1 C0.2.1 d_law_295 rfl (lv_at hl 1 rfl) ?_
    refine lv_aload_n C0.1 C0.2.1 d_law_296 rfl (lv_at hl 0 rfl) ?_
    refine lv_iload_n C0.1 C0.2.1 d_law_297 rfl (lv_at hl 3 rfl) ?_
    refine lv_iconst (v := nI 1) C0.1 C0.2.1 d_law_298 (by decide) ?_
    refine lv_iadd C0.1 C0.2.1 d_law_299 ?_
    refine ti (show (nI (5 * i)) + (nI 1) = nI (5 * i + 1) from nI_add _ _) ?_
    refine sld C0 hX hbl hbA hB (show 5 * i + 1 < Ls by omega) (by omega) d_law_300 ?_
    refine lv_aload_n C0.1 C0.2.1 d_law_301 rfl (lv_at hl 0 rfl) ?_
    refine lv_iload_n C0.1 C0.2.1 d_law_302 rfl (lv_at hl 3 rfl) ?_
    refine lv_iconst (v := nI 2) C0.1 C0.2.1 d_law_303 (by decide) ?_
    refine lv_iadd C0.1 C0.2.1 d_law_304 ?_
    refine ti (show (nI (5 * i)) + (nI 2) = nI (5 * i + 2) from nI_add _ _) ?_
    refine sld C0 hX hbl hbA hB (show 5 * i + 2 < Ls by omega) (by omega) d_law_305 ?_
    refine wcut (g2 := F0 m 314 ls [.int (bI (decide (¬ xs (5 * i + 2) = 0))), .int (xs (5 * i + 1)), .ref (a 0)]) ?_ (fun T314 => ?_)
    · refine cR (As := [.int (xs (5 * i + 1)), .int (bI (decide (¬ xs (5 * i + 2) = 0)))]) (rest := []) C0 (c_WS_bar_no _ (decide (¬ xs (5 * i + 2) = 0)) h1 hr) (q_LW_39 C0.2.2.2.2.1 rfl rfl ⟨Nat.le_of_ble_eq_true rfl, Nat.le_of_ble_eq_true rfl⟩) (ci := 0) (q0 := 0) rfl rfl rfl hB.1 hl.1 rfl rfl (Nat.le_of_ble_eq_true rfl) d_law_314 ⟨(show cells ≤ 600000 by omega), (show slots ≤ 7302250 by omega)⟩ ?_
      refine W.eq (g2 := F0 m 317 ls [.int (bI false)]) rfl ?_
      refine lv_aload_n C0.1 C0.2.1 d_law_317 rfl (lv_at hl 2 rfl) ?_
      refine lv_aload_n C0.1 C0.2.1 d_law_318 rfl (lv_at hl 0 rfl) ?_
      refine lv_iload_n C0.1 C0.2.1 d_law_319 rfl (lv_at hl 3 rfl) ?_
      refine lv_iconst (v := nI 1) C0.1 C0.2.1 d_law_320 (by decide) ?_
      refine lv_iadd C0.1 C0.2.1 d_law_321 ?_
      refine ti (show (nI (5 * i)) + (nI 1) = nI (5 * i + 1) from nI_add _ _) ?_
      refine sld C0 hX hbl hbA hB (show 5 * i + 1 < Ls by omega) (by omega) d_law_322 ?_
      refine lv_aload_n C0.1 C0.2.1 d_law_323 rfl (lv_at hl 0 rfl) ?_
      refine lv_iload_n C0.1 C0.2.1 d_law_324 rfl (lv_at hl 3 rfl) ?_
      refine lv_iconst (v := nI 2) C0.1 C0.2.1 d_law_325 (by decide) ?_
      refine lv_iadd C0.1 C0.2.1 d_law_326 ?_
      refine ti (show (nI (5 * i)) + (nI 2) = nI (5 * i + 2) from nI_add _ _) ?_
      refine sld C0 hX hbl hbA hB (show 5 * i + 2 < Ls by omega) (by omega) d_law_327 ?_
      refine wcut (g2 := F0 m 336 ls [.int (bI (decide (¬ xs (5 * i + 2) = 0))), .int (xs (5 * i + 1)), .ref (bb 0), .int (bI false)]) ?_ (fun T336 => ?_)
      · have hM : wB g classes A s.heap (mW bb t n kd em br ii oo np ea eb li rn wp wl wf wt L.length ct2 sT2 sP2 sa sb ((wW a t n kd em br ii oo np ea eb li rn (waL L) L.length sT sP ak ap af tt ac ct rp rt ([]) ([])) ++ wy_W t L)) _ _ := wB.rot (a := (wW a t n kd em br ii oo np ea eb li rn (waL L) L.length sT sP ak ap af tt ac ct rp rt ([]) ([]))) (b := (mW bb t n kd em br ii oo np ea eb li rn wp wl wf wt L.length ct2 sT2 sP2 sa sb ([]))) (y := wy_W t L) hB
        refine cR (As := [.int (xs (5 * i + 1)), .int (bI (decide (¬ xs (5 * i + 2) = 0)))]) (rest := [.int (bI false)]) C0 (c_MO_bar_no _ (decide (¬ xs (5 * i + 2) = 0)) h1 hr) (q_LW_42 C0.2.2.2.2.1 rfl rfl ⟨Nat.le_of_ble_eq_true rfl, Nat.le_of_ble_eq_true rfl⟩) (ci := 5) (q0 := 0) rfl rfl rfl hM.1 hl.1 rfl rfl (Nat.le_of_ble_eq_true rfl) d_law_336 ⟨(show cells ≤ 600000 by omega), (show slots ≤ 7302250 by omega)⟩ ?_
        refine W.eq (g2 := F0 m 339 ls [.int (bI false), .int (bI false)]) rfl ?_
        refine lv_icmp_eq (tgt := 652) C0.1 C0.2.1 d_law_339 (by decide) (fun _ => ?_) (fun c_339 => ?_)
        · skip
          exact W.widen (by omega) (by omega) (K _ _ _ _ _ _ _ _ _ _ _ _ _ _ _ _ _ _ _ _ _ _ _ _ _ _ _ _ _ _ _ (hI) _ _ hB)
        · exact absurd (rfl) c_339
      · refine lv_if_eq (tgt := 335) C0.1 C0.2.1 d_law_328 (by decide) (fun c_328 => ?_) (fun c_328 => ?_)
        · refine lv_iconst (v := nI 0) C0.1 C0.2.1 d_law_335 (by decide) ?_
          exact ti (show nI 0 = bI (decide (¬ xs (5 * i + 2) = 0)) from by rw [decide_eq_false (fun q => q c_328)]; rfl) T336
        · refine lv_iconst (v := nI 1) C0.1 C0.2.1 d_law_331 (by decide) ?_
          refine lv_goto (tgt := 336) C0.1 C0.2.1 d_law_332 (by decide) ?_
          exact ti (show nI 1 = bI (decide (¬ xs (5 * i + 2) = 0)) from by rw [decide_eq_true (show ¬ xs (5 * i + 2) = 0 from c_328)]; rfl) T336
    · refine lv_if_eq (tgt := 313) C0.1 C0.2.1 d_law_306 (by decide) (fun c_306 => ?_) (fun c_306 => ?_)
      · refine lv_iconst (v := nI 0) C0.1 C0.2.1 d_law_313 (by decide) ?_
        exact ti (show nI 0 = bI (decide (¬ xs (5 * i + 2) = 0)) from by rw [decide_eq_false (fun q => q c_306)]; rfl) T314
      · refine lv_iconst (v := nI 1) C0.1 C0.2.1 d_law_309 (by decide) ?_
        refine lv_goto (tgt := 314) C0.1 C0.2.1 d_law_310 (by decide) ?_
        exact ti (show nI 1 = bI (decide (¬ xs (5 * i + 2) = 0)) from by rw [decide_eq_true (show ¬ xs (5 * i + 2) = 0 from c_306)]; rfl) T314
set_option maxHeartbeats 4000000 in
set_option maxRecDepth 100000 in
theorem lc_12 {p : Program} {l : Launch} {e : Env} {s : State} {m : MethodId} {below : List Frame} {meth : Method} {c : Code} {g : va_G} {t : Nat → ClassId} {a bb : Nat → Nat} {b0 Ls : Nat} {xs : Nat → Int32} {A : Nat → Prop} (C0 : cX p m c code 4 s #[Value.ref b0] R_LW g classes (tyL t)) (hX : va_X b0 Ls xs s s.heap) (hbl : b0 < s.heap.size) (hbA : ¬ A b0) (hLs : Ls ≤ 2560) {i : Nat} (hi : 5 * i + 5 ≤ Ls) {ls : Array Slot} (hl : lv_has ls 4 [(0, .ref b0), (1, .ref (a 0)), (2, .ref (bb 0)), (3, .int (nI (5 * i)))]) {cells slots : Nat} (hcc : cells + 6 ≤ 600000) (hss : slots + 200 ≤ 7302250) {Q : State → Prop} {n : Nat} {kd : Nat → Nat} {em : Nat → Bool} {br : Nat → Bool} {ii : Nat → Int32} {oo : Nat → Int32} {np : Nat} {ea : Nat → Nat} {eb : Nat → Nat} {li : Nat → Nat} {rn : Nat → Bool} {sT : Nat → Bool} {sP : Nat → Bool} {ak : Nat} {ap : Nat → Nat} {af : Nat → Nat} {tt : Nat → Nat} {ac : Nat → Nat} {ct : Nat → Nat} {rp : Nat → Nat} {rt : Nat → Nat} {L : List Wy} {wp : Nat → Nat} {wl : Nat → Nat} {wf : Nat → Nat} {wt : Nat → Nat} {ct2 : Nat → Nat} {sT2 : Nat → Bool} {sP2 : Nat → Bool} {sa : Nat → Nat} {sb : Nat → Nat} {H : Heap} {locs : List Loc} (hI : LInv n kd em br np ea eb li rn L wp wl wf wt) (hB : wB g classes A s.heap (wW a t n kd em br ii oo np ea eb li rn (waL L) L.length sT sP ak ap af tt ac ct rp rt (mW bb t n kd em br ii oo np ea eb li rn wp wl wf wt L.length ct2 sT2 sP2 sa sb ([])) L) H locs) (K : ∀ (n : Nat) (kd : Nat → Nat) (em : Nat → Bool) (br : Nat → Bool) (ii : Nat → Int32) (oo : Nat → Int32) (np : Nat) (ea : Nat → Nat) (eb : Nat → Nat) (li : Nat → Nat) (rn : Nat → Bool) (sT : Nat → Bool) (sP : Nat → Bool) (ak : Nat) (ap : Nat → Nat) (af : Nat → Nat) (tt : Nat → Nat) (ac : Nat → Nat) (ct : Nat → Nat) (rp : Nat → Nat) (rt : Nat → Nat) (L : List Wy) (wp : Nat → Nat) (wl : Nat → Nat) (wf : Nat → Nat) (wt : Nat → Nat) (ct2 : Nat → Nat) (sT2 : Nat → Bool) (sP2 : Nat → Bool) (sa : Nat → Nat) (sb : Nat → Nat), LInv n kd em br np ea eb li rn L wp wl wf wt → ∀ (H : Heap) (locs : List Loc), wB g classes A s.heap (wW a t n kd em br ii oo np ea eb li rn (waL L) L.length sT sP ak ap af tt ac ct rp rt (mW bb t n kd em br ii oo np ea eb li rn wp wl wf wt L.length ct2 sT2 sP2 sa sb ([])) L) H locs → W p l e room_1 s m #[Value.ref b0] below meth c H locs (cells + 6) (slots + 200) Q (F0 m 652 ls [])) : W p l e room_1 s m #[Value.ref b0] below meth c H locs cells slots Q (F0 m 553 ls []) := by
  obtain ⟨⟨h1, h2, h3, h4, h5, h6, h7, h8, h9, h10⟩, g1, g2, g3⟩ := id hI
  by_cases hr : fwdB n kd np ea eb (xs (5 * i + 1)) (xs (5 * i + 2)) (xs (5 * i + 3)) = true
  · have hr2 := hr
    unfold fwdB at hr2
    rw [Bool.and_eq_true, Bool.and_eq_true, Bool.and_eq_true] at hr2
    obtain ⟨⟨f1, f2⟩, f3, f4⟩ := hr2
    obtain ⟨j0, p1, p2, p3⟩ := isK_ex (by omega) f1
    rw [p2] at hr
    refine lv_aload_n C0.1 C0.2.1 d_law_553 rfl (lv_at hl 1 rfl) ?_
    refine lv_aload_n C0.1 C0.2.1 d_law_554 rfl (lv_at hl 0 rfl) ?_
    refine lv_iload_n C0.1 C0.2.1 d_law_555 rfl (lv_at hl 3 rfl) ?_
    refine lv_iconst (v := nI 1) C0.1 C0.2.1 d_law_556 (by decide) ?_
    refine lv_iadd C0.1 C0.2.1 d_law_557 ?_
    refine ti (show (nI (5 * i)) + (nI 1) = nI (5 * i + 1) from nI_add _ _) ?_
    refine sld C0 hX hbl hbA hB (show 5 * i + 1 < Ls by omega) (by omega) d_law_558 ?_
    refine lv_aload_n C0.1 C0.2.1 d_law_559 rfl (lv_at hl 0 rfl) ?_
    refine lv_iload_n C0.1 C0.2.1 d_law_560 rfl (lv_at hl 3 rfl) ?_
    refine lv_iconst (v := nI 2) C0.1 C0.2.1 d_law_561 (by decide) ?_
    refine lv_iadd C0.1 C0.2.1 d_law_562 ?_
    refine ti (show (nI (5 * i)) + (nI 2) = nI (5 * i + 2) from nI_add _ _) ?_
    refine sld C0 hX hbl hbA hB (show 5 * i + 2 < Ls by omega) (by omega) d_law_563 ?_
    refine lv_aload_n C0.1 C0.2.1 d_law_564 rfl (lv_at hl 0 rfl) ?_
    refine lv_iload_n C0.1 C0.2.1 d_law_565 rfl (lv_at hl 3 rfl) ?_
    refine lv_iconst (v := nI 3) C0.1 C0.2.1 d_law_566 (by decide) ?_
    refine lv_iadd C0.1 C0.2.1 d_law_567 ?_
    refine ti (show (nI (5 * i)) + (nI 3) = nI (5 * i + 3) from nI_add _ _) ?_
    refine sld C0 hX hbl hbA hB (show 5 * i + 3 < Ls by omega) (by omega) d_law_568 ?_
    refine cM (As := [.int (xs (5 * i + 1)), .int (xs (5 * i + 2)), .int (xs (5 * i + 3))]) (rest := []) C0 (Mt.as (c_WS_forward j0 _ _ p1 h1 h2 h3 hr) (by rw [p2])) (q_LW_70 C0.2.2.2.2.1 rfl rfl ⟨Nat.le_of_ble_eq_true rfl, Nat.le_of_ble_eq_true rfl⟩) (ci := 0) (q0 := 0) rfl rfl rfl hB hl.1 rfl rfl (Nat.le_of_ble_eq_true rfl) d_law_569 ⟨(show cells + 0 ≤ 600000 by omega), (show slots + 0 ≤ 7302250 by omega)⟩ (fun v_569 u_569 H locs hp_569 hB => ?_)
    obtain rfl := hp_569
    have hB : wB g classes A s.heap (wW a t n kd em br (va_up ii j0 (xs (5 * i + 2))) (va_up oo j0 (xs (5 * i + 3))) np ea eb li rn (waL L) L.length sT sP ak ap af tt ac ct rp rt (mW bb t n kd em br ii oo np ea eb li rn wp wl wf wt L.length ct2 sT2 sP2 sa sb ([])) L) H locs := hB
    refine W.eq (g2 := F0 m 572 ls [.int (bI true)]) rfl ?_
    refine lv_aload_n C0.1 C0.2.1 d_law_572 rfl (lv_at hl 2 rfl) ?_
    refine lv_aload_n C0.1 C0.2.1 d_law_573 rfl (lv_at hl 0 rfl) ?_
    refine lv_iload_n C0.1 C0.2.1 d_law_574 rfl (lv_at hl 3 rfl) ?_
    refine lv_iconst (v := nI 1) C0.1 C0.2.1 d_law_575 (by decide) ?_
    refine lv_iadd C0.1 C0.2.1 d_law_576 ?_
    refine ti (show (nI (5 * i)) + (nI 1) = nI (5 * i + 1) from nI_add _ _) ?_
    refine sld C0 hX hbl hbA hB (show 5 * i + 1 < Ls by omega) (by omega) d_law_577 ?_
    refine lv_aload_n C0.1 C0.2.1 d_law_578 rfl (lv_at hl 0 rfl) ?_
    refine lv_iload_n C0.1 C0.2.1 d_law_579 rfl (lv_at hl 3 rfl) ?_
    refine lv_iconst (v := nI 2) C0.1 C0.2.1 d_law_580 (by decide) ?_
    refine lv_iadd C0.1 C0.2.1 d_law_581 ?_
    refine ti (show (nI (5 * i)) + (nI 2) = nI (5 * i + 2) from nI_add _ _) ?_
    refine sld C0 hX hbl hbA hB (show 5 * i + 2 < Ls by omega) (by omega) d_law_582 ?_
    refine lv_aload_n C0.1 C0.2.1 d_law_583 rfl (lv_at hl 0 rfl) ?_
    refine lv_iload_n C0.1 C0.2.1 d_law_584 rfl (lv_at hl 3 rfl) ?_
    refine lv_iconst (v := nI 3) C0.1 C0.2.1 d_law_585 (by decide) ?_
    refine lv_iadd C0.1 C0.2.1 d_law_586 ?_
    refine ti (show (nI (5 * i)) + (nI 3) = nI (5 * i + 3) from nI_add _ _) ?_
    refine sld C0 hX hbl hbA hB (show 5 * i + 3 < Ls by omega) (by omega) d_law_587 ?_
    have hM : wB g classes A s.heap (mW bb t n kd em br ii oo np ea eb li rn wp wl wf wt L.length ct2 sT2 sP2 sa sb ((wW a t n kd em br (va_up ii j0 (xs (5 * i + 2))) (va_up oo j0 (xs (5 * i + 3))) np ea eb li rn (waL L) L.length sT sP ak ap af tt ac ct rp rt ([]) ([])) ++ wy_W t L)) _ _ := wB.rot (a := (wW a t n kd em br (va_up ii j0 (xs (5 * i + 2))) (va_up oo j0 (xs (5 * i + 3))) np ea eb li rn (waL L) L.length sT sP ak ap af tt ac ct rp rt ([]) ([]))) (b := (mW bb t n kd em br ii oo np ea eb li rn wp wl wf wt L.length ct2 sT2 sP2 sa sb ([]))) (y := wy_W t L) hB
    refine cM (As := [.int (xs (5 * i + 1)), .int (xs (5 * i + 2)), .int (xs (5 * i + 3))]) (rest := [.int (bI true)]) C0 (Mt.as (c_MO_forward j0 _ _ p1 p3 (join_thing h1 h4 h5 f3) (join_thing h1 h4 h5 f4) h1 h2 h3 hr) (by rw [p2])) (q_LW_74 C0.2.2.2.2.1 rfl rfl ⟨Nat.le_of_ble_eq_true rfl, Nat.le_of_ble_eq_true rfl⟩) (ci := 5) (q0 := 0) rfl rfl rfl hM hl.1 rfl rfl (Nat.le_of_ble_eq_true rfl) d_law_588 ⟨(show cells + 0 + 0 ≤ 600000 by omega), (show slots + 0 + 0 ≤ 7302250 by omega)⟩ (fun v_588 u_588 H locs hp_588 hB => ?_)
    obtain rfl := hp_588
    have hM : wB g classes A s.heap (mW bb t n kd em br (va_up ii j0 (xs (5 * i + 2))) (va_up oo j0 (xs (5 * i + 3))) np ea eb li rn wp wl wf wt L.length ct2 sT2 sP2 sa sb ((wW a t n kd em br (va_up ii j0 (xs (5 * i + 2))) (va_up oo j0 (xs (5 * i + 3))) np ea eb li rn (waL L) L.length sT sP ak ap af tt ac ct rp rt ([]) ([])) ++ wy_W t L)) H locs := hB
    have hB : wB g classes A s.heap (wW a t n kd em br (va_up ii j0 (xs (5 * i + 2))) (va_up oo j0 (xs (5 * i + 3))) np ea eb li rn (waL L) L.length sT sP ak ap af tt ac ct rp rt (mW bb t n kd em br (va_up ii j0 (xs (5 * i + 2))) (va_up oo j0 (xs (5 * i + 3))) np ea eb li rn wp wl wf wt L.length ct2 sT2 sP2 sa sb ([])) L) H locs := wB.rot (a := (mW bb t n kd em br (va_up ii j0 (xs (5 * i + 2))) (va_up oo j0 (xs (5 * i + 3))) np ea eb li rn wp wl wf wt L.length ct2 sT2 sP2 sa sb ([]))) (b := (wW a t n kd em br (va_up ii j0 (xs (5 * i + 2))) (va_up oo j0 (xs (5 * i + 3))) np ea eb li rn (waL L) L.length sT sP ak ap af tt ac ct rp rt ([]) ([]))) (y := wy_W t L) hM
    refine W.eq (g2 := F0 m 591 ls [.int (bI true), .int (bI true)]) rfl ?_
    refine lv_icmp_eq (tgt := 652) C0.1 C0.2.1 d_law_591 (by decide) (fun _ => ?_) (fun c_591 => ?_)
    · skip
      exact W.widen (by omega) (by omega) (K _ _ _ _ _ _ _ _ _ _ _ _ _ _ _ _ _ _ _ _ _ _ _ _ _ _ _ _ _ _ _ (hI) _ _ hB)
    · exact absurd (rfl) c_591
  · have hr := Bool.eq_false_iff.mpr hr
    refine lv_aload_n C0.1 C0.2.1 d_law_553 rfl (lv_at hl 1 rfl) ?_
    refine lv_aload_n C0.1 C0.2.1 d_law_554 rfl (lv_at hl 0 rfl) ?_
    refine lv_iload_n C0.1 C0.2.1 d_law_555 rfl (lv_at hl 3 rfl) ?_
    refine lv_iconst (v := nI 1) C0.1 C0.2.1 d_law_556 (by decide) ?_
    refine lv_iadd C0.1 C0.2.1 d_law_557 ?_
    refine ti (show (nI (5 * i)) + (nI 1) = nI (5 * i + 1) from nI_add _ _) ?_
    refine sld C0 hX hbl hbA hB (show 5 * i + 1 < Ls by omega) (by omega) d_law_558 ?_
    refine lv_aload_n C0.1 C0.2.1 d_law_559 rfl (lv_at hl 0 rfl) ?_
    refine lv_iload_n C0.1 C0.2.1 d_law_560 rfl (lv_at hl 3 rfl) ?_
    refine lv_iconst (v := nI 2) C0.1 C0.2.1 d_law_561 (by decide) ?_
    refine lv_iadd C0.1 C0.2.1 d_law_562 ?_
    refine ti (show (nI (5 * i)) + (nI 2) = nI (5 * i + 2) from nI_add _ _) ?_
    refine sld C0 hX hbl hbA hB (show 5 * i + 2 < Ls by omega) (by omega) d_law_563 ?_
    refine lv_aload_n C0.1 C0.2.1 d_law_564 rfl (lv_at hl 0 rfl) ?_
    refine lv_iload_n C0.1 C0.2.1 d_law_565 rfl (lv_at hl 3 rfl) ?_
    refine lv_iconst (v := nI 3) C0.1 C0.2.1 d_law_566 (by decide) ?_
    refine lv_iadd C0.1 C0.2.1 d_law_567 ?_
    refine ti (show (nI (5 * i)) + (nI 3) = nI (5 * i + 3) from nI_add _ _) ?_
    refine sld C0 hX hbl hbA hB (show 5 * i + 3 < Ls by omega) (by omega) d_law_568 ?_
    refine cR (As := [.int (xs (5 * i + 1)), .int (xs (5 * i + 2)), .int (xs (5 * i + 3))]) (rest := []) C0 (c_WS_forward_no _ _ _ h1 h2 h3 hr) (q_LW_70 C0.2.2.2.2.1 rfl rfl ⟨Nat.le_of_ble_eq_true rfl, Nat.le_of_ble_eq_true rfl⟩) (ci := 0) (q0 := 0) rfl rfl rfl hB.1 hl.1 rfl rfl (Nat.le_of_ble_eq_true rfl) d_law_569 ⟨(show cells ≤ 600000 by omega), (show slots ≤ 7302250 by omega)⟩ ?_
    refine W.eq (g2 := F0 m 572 ls [.int (bI false)]) rfl ?_
    refine lv_aload_n C0.1 C0.2.1 d_law_572 rfl (lv_at hl 2 rfl) ?_
    refine lv_aload_n C0.1 C0.2.1 d_law_573 rfl (lv_at hl 0 rfl) ?_
    refine lv_iload_n C0.1 C0.2.1 d_law_574 rfl (lv_at hl 3 rfl) ?_
    refine lv_iconst (v := nI 1) C0.1 C0.2.1 d_law_575 (by decide) ?_
    refine lv_iadd C0.1 C0.2.1 d_law_576 ?_
    refine ti (show (nI (5 * i)) + (nI 1) = nI (5 * i + 1) from nI_add _ _) ?_
    refine sld C0 hX hbl hbA hB (show 5 * i + 1 < Ls by omega) (by omega) d_law_577 ?_
    refine lv_aload_n C0.1 C0.2.1 d_law_578 rfl (lv_at hl 0 rfl) ?_
    refine lv_iload_n C0.1 C0.2.1 d_law_579 rfl (lv_at hl 3 rfl) ?_
    refine lv_iconst (v := nI 2) C0.1 C0.2.1 d_law_580 (by decide) ?_
    refine lv_iadd C0.1 C0.2.1 d_law_581 ?_
    refine ti (show (nI (5 * i)) + (nI 2) = nI (5 * i + 2) from nI_add _ _) ?_
    refine sld C0 hX hbl hbA hB (show 5 * i + 2 < Ls by omega) (by omega) d_law_582 ?_
    refine lv_aload_n C0.1 C0.2.1 d_law_583 rfl (lv_at hl 0 rfl) ?_
    refine lv_iload_n C0.1 C0.2.1 d_law_584 rfl (lv_at hl 3 rfl) ?_
    refine lv_iconst (v := nI 3) C0.1 C0.2.1 d_law_585 (by decide) ?_
    refine lv_iadd C0.1 C0.2.1 d_law_586 ?_
    refine ti (show (nI (5 * i)) + (nI 3) = nI (5 * i + 3) from nI_add _ _) ?_
    refine sld C0 hX hbl hbA hB (show 5 * i + 3 < Ls by omega) (by omega) d_law_587 ?_
    have hM : wB g classes A s.heap (mW bb t n kd em br ii oo np ea eb li rn wp wl wf wt L.length ct2 sT2 sP2 sa sb ((wW a t n kd em br ii oo np ea eb li rn (waL L) L.length sT sP ak ap af tt ac ct rp rt ([]) ([])) ++ wy_W t L)) _ _ := wB.rot (a := (wW a t n kd em br ii oo np ea eb li rn (waL L) L.length sT sP ak ap af tt ac ct rp rt ([]) ([]))) (b := (mW bb t n kd em br ii oo np ea eb li rn wp wl wf wt L.length ct2 sT2 sP2 sa sb ([]))) (y := wy_W t L) hB
    refine cR (As := [.int (xs (5 * i + 1)), .int (xs (5 * i + 2)), .int (xs (5 * i + 3))]) (rest := [.int (bI false)]) C0 (c_MO_forward_no _ _ _ h1 h2 h3 hr) (q_LW_74 C0.2.2.2.2.1 rfl rfl ⟨Nat.le_of_ble_eq_true rfl, Nat.le_of_ble_eq_true rfl⟩) (ci := 5) (q0 := 0) rfl rfl rfl hM.1 hl.1 rfl rfl (Nat.le_of_ble_eq_true rfl) d_law_588 ⟨(show cells ≤ 600000 by omega), (show slots ≤ 7302250 by omega)⟩ ?_
    refine W.eq (g2 := F0 m 591 ls [.int (bI false), .int (bI false)]) rfl ?_
    refine lv_icmp_eq (tgt := 652) C0.1 C0.2.1 d_law_591 (by decide) (fun _ => ?_) (fun c_591 => ?_)
    · skip
      exact W.widen (by omega) (by omega) (K _ _ _ _ _ _ _ _ _ _ _ _ _ _ _ _ _ _ _ _ _ _ _ _ _ _ _ _ _ _ _ (hI) _ _ hB)
    · exact absurd (rfl) c_591
set_option maxHeartbeats 4000000 in
set_option maxRecDepth 100000 in
theorem lc_13 {p : Program} {l : Launch} {e : Env} {s : State} {m : MethodId} {below : List Frame} {meth : Method} {c : Code} {g : va_G} {t : Nat → ClassId} {a bb : Nat → Nat} {b0 Ls : Nat} {xs : Nat → Int32} {A : Nat → Prop} (C0 : cX p m c code 4 s #[Value.ref b0] R_LW g classes (tyL t)) (hX : va_X b0 Ls xs s s.heap) (hbl : b0 < s.heap.size) (hbA : ¬ A b0) (hLs : Ls ≤ 2560) {i : Nat} (hi : 5 * i + 5 ≤ Ls) {ls : Array Slot} (hl : lv_has ls 4 [(0, .ref b0), (1, .ref (a 0)), (2, .ref (bb 0)), (3, .int (nI (5 * i)))]) {cells slots : Nat} (hcc : cells + 6 ≤ 600000) (hss : slots + 200 ≤ 7302250) {Q : State → Prop} {n : Nat} {kd : Nat → Nat} {em : Nat → Bool} {br : Nat → Bool} {ii : Nat → Int32} {oo : Nat → Int32} {np : Nat} {ea : Nat → Nat} {eb : Nat → Nat} {li : Nat → Nat} {rn : Nat → Bool} {sT : Nat → Bool} {sP : Nat → Bool} {ak : Nat} {ap : Nat → Nat} {af : Nat → Nat} {tt : Nat → Nat} {ac : Nat → Nat} {ct : Nat → Nat} {rp : Nat → Nat} {rt : Nat → Nat} {L : List Wy} {wp : Nat → Nat} {wl : Nat → Nat} {wf : Nat → Nat} {wt : Nat → Nat} {ct2 : Nat → Nat} {sT2 : Nat → Bool} {sP2 : Nat → Bool} {sa : Nat → Nat} {sb : Nat → Nat} {H : Heap} {locs : List Loc} (hI : LInv n kd em br np ea eb li rn L wp wl wf wt) (hB : wB g classes A s.heap (wW a t n kd em br ii oo np ea eb li rn (waL L) L.length sT sP ak ap af tt ac ct rp rt (mW bb t n kd em br ii oo np ea eb li rn wp wl wf wt L.length ct2 sT2 sP2 sa sb ([])) L) H locs) (K : ∀ (n : Nat) (kd : Nat → Nat) (em : Nat → Bool) (br : Nat → Bool) (ii : Nat → Int32) (oo : Nat → Int32) (np : Nat) (ea : Nat → Nat) (eb : Nat → Nat) (li : Nat → Nat) (rn : Nat → Bool) (sT : Nat → Bool) (sP : Nat → Bool) (ak : Nat) (ap : Nat → Nat) (af : Nat → Nat) (tt : Nat → Nat) (ac : Nat → Nat) (ct : Nat → Nat) (rp : Nat → Nat) (rt : Nat → Nat) (L : List Wy) (wp : Nat → Nat) (wl : Nat → Nat) (wf : Nat → Nat) (wt : Nat → Nat) (ct2 : Nat → Nat) (sT2 : Nat → Bool) (sP2 : Nat → Bool) (sa : Nat → Nat) (sb : Nat → Nat), LInv n kd em br np ea eb li rn L wp wl wf wt → ∀ (H : Heap) (locs : List Loc), wB g classes A s.heap (wW a t n kd em br ii oo np ea eb li rn (waL L) L.length sT sP ak ap af tt ac ct rp rt (mW bb t n kd em br ii oo np ea eb li rn wp wl wf wt L.length ct2 sT2 sP2 sa sb ([])) L) H locs → W p l e room_1 s m #[Value.ref b0] below meth c H locs (cells + 6) (slots + 200) Q (F0 m 652 ls [])) : W p l e room_1 s m #[Value.ref b0] below meth c H locs cells slots Q (F0 m 596 ls []) := by
  obtain ⟨⟨h1, h2, h3, h4, h5, h6, h7, h8, h9, h10⟩, g1, g2, g3⟩ := id hI
  refine lv_aload_n C0.1 C0.2.1 d_law_596 rfl (lv_at hl 1 rfl) ?_
  refine lv_aload_n C0.1 C0.2.1 d_law_597 rfl (lv_at hl 0 rfl) ?_
  refine lv_iload_n C0.1 C0.2.1 d_law_598 rfl (lv_at hl 3 rfl) ?_
  refine lv_iconst (v := nI 1) C0.1 C0.2.1 d_law_599 (by decide) ?_
  refine lv_iadd C0.1 C0.2.1 d_law_600 ?_
  refine ti (show (nI (5 * i)) + (nI 1) = nI (5 * i + 1) from nI_add _ _) ?_
  refine sld C0 hX hbl hbA hB (show 5 * i + 1 < Ls by omega) (by omega) d_law_601 ?_
  refine cR (As := [.int (xs (5 * i + 1))]) (rest := []) C0 (c_WS_told _ h1 h2 h4 h5) (q_LW_75 C0.2.2.2.2.1 rfl rfl ⟨Nat.le_of_ble_eq_true rfl, Nat.le_of_ble_eq_true rfl⟩) (ci := 0) (q0 := 0) rfl rfl rfl hB.1 hl.1 rfl rfl (Nat.le_of_ble_eq_true rfl) d_law_602 ⟨(show cells ≤ 600000 by omega), (show slots ≤ 7302250 by omega)⟩ ?_
  refine W.eq (g2 := F0 m 605 ls [.int (toldF n np L.length (cntN br 48) (cntN rn 96) (cntN em 48) (cntN (fun v => !anyN (endB ea eb v) np) n) (xs (5 * i + 1)))]) rfl ?_
  refine lv_aload_n C0.1 C0.2.1 d_law_605 rfl (lv_at hl 2 rfl) ?_
  refine lv_aload_n C0.1 C0.2.1 d_law_606 rfl (lv_at hl 0 rfl) ?_
  refine lv_iload_n C0.1 C0.2.1 d_law_607 rfl (lv_at hl 3 rfl) ?_
  refine lv_iconst (v := nI 1) C0.1 C0.2.1 d_law_608 (by decide) ?_
  refine lv_iadd C0.1 C0.2.1 d_law_609 ?_
  refine ti (show (nI (5 * i)) + (nI 1) = nI (5 * i + 1) from nI_add _ _) ?_
  refine sld C0 hX hbl hbA hB (show 5 * i + 1 < Ls by omega) (by omega) d_law_610 ?_
  have hM : wB g classes A s.heap (mW bb t n kd em br ii oo np ea eb li rn wp wl wf wt L.length ct2 sT2 sP2 sa sb ((wW a t n kd em br ii oo np ea eb li rn (waL L) L.length sT sP ak ap af tt ac ct rp rt ([]) ([])) ++ wy_W t L)) _ _ := wB.rot (a := (wW a t n kd em br ii oo np ea eb li rn (waL L) L.length sT sP ak ap af tt ac ct rp rt ([]) ([]))) (b := (mW bb t n kd em br ii oo np ea eb li rn wp wl wf wt L.length ct2 sT2 sP2 sa sb ([]))) (y := wy_W t L) hB
  refine cR (As := [.int (xs (5 * i + 1))]) (rest := [.int (toldF n np L.length (cntN br 48) (cntN rn 96) (cntN em 48) (cntN (fun v => !anyN (endB ea eb v) np) n) (xs (5 * i + 1)))]) C0 (c_MO_told _ h1 h2 h3 h4 h5) (q_LW_79 C0.2.2.2.2.1 rfl rfl ⟨Nat.le_of_ble_eq_true rfl, Nat.le_of_ble_eq_true rfl⟩) (ci := 5) (q0 := 0) rfl rfl rfl hM.1 hl.1 rfl rfl (Nat.le_of_ble_eq_true rfl) d_law_611 ⟨(show cells ≤ 600000 by omega), (show slots ≤ 7302250 by omega)⟩ ?_
  refine W.eq (g2 := F0 m 614 ls [.int (toldF n np L.length (cntN br n) (cntN rn np) (cntN (fun v => decide (kd v = 0) && em v) n) (cntN (fun v => !anyN (endB ea eb v) np) n) (xs (5 * i + 1))), .int (toldF n np L.length (cntN br 48) (cntN rn 96) (cntN em 48) (cntN (fun v => !anyN (endB ea eb v) np) n) (xs (5 * i + 1)))]) rfl ?_
  refine lv_icmp_eq (tgt := 652) C0.1 C0.2.1 d_law_614 (by decide) (fun _ => ?_) (fun c_614 => ?_)
  · skip
    exact W.widen (by omega) (by omega) (K _ _ _ _ _ _ _ _ _ _ _ _ _ _ _ _ _ _ _ _ _ _ _ _ _ _ _ _ _ _ _ (hI) _ _ hB)
  · exact absurd (told_eq hI.1 _ _ _) c_614
set_option maxHeartbeats 4000000 in
set_option maxRecDepth 100000 in
theorem lc_7 {p : Program} {l : Launch} {e : Env} {s : State} {m : MethodId} {below : List Frame} {meth : Method} {c : Code} {g : va_G} {t : Nat → ClassId} {a bb : Nat → Nat} {b0 Ls : Nat} {xs : Nat → Int32} {A : Nat → Prop} (C0 : cX p m c code 4 s #[Value.ref b0] R_LW g classes (tyL t)) (hX : va_X b0 Ls xs s s.heap) (hbl : b0 < s.heap.size) (hbA : ¬ A b0) (hLs : Ls ≤ 2560) {i : Nat} (hi : 5 * i + 5 ≤ Ls) {ls : Array Slot} (hl : lv_has ls 4 [(0, .ref b0), (1, .ref (a 0)), (2, .ref (bb 0)), (3, .int (nI (5 * i)))]) {cells slots : Nat} (hcc : cells + 6 ≤ 600000) (hss : slots + 200 ≤ 7302250) {Q : State → Prop} {n : Nat} {kd : Nat → Nat} {em : Nat → Bool} {br : Nat → Bool} {ii : Nat → Int32} {oo : Nat → Int32} {np : Nat} {ea : Nat → Nat} {eb : Nat → Nat} {li : Nat → Nat} {rn : Nat → Bool} {sT : Nat → Bool} {sP : Nat → Bool} {ak : Nat} {ap : Nat → Nat} {af : Nat → Nat} {tt : Nat → Nat} {ac : Nat → Nat} {ct : Nat → Nat} {rp : Nat → Nat} {rt : Nat → Nat} {L : List Wy} {wp : Nat → Nat} {wl : Nat → Nat} {wf : Nat → Nat} {wt : Nat → Nat} {ct2 : Nat → Nat} {sT2 : Nat → Bool} {sP2 : Nat → Bool} {sa : Nat → Nat} {sb : Nat → Nat} {H : Heap} {locs : List Loc} (hI : LInv n kd em br np ea eb li rn L wp wl wf wt) (hB : wB g classes A s.heap (wW a t n kd em br ii oo np ea eb li rn (waL L) L.length sT sP ak ap af tt ac ct rp rt (mW bb t n kd em br ii oo np ea eb li rn wp wl wf wt L.length ct2 sT2 sP2 sa sb ([])) L) H locs) (K : ∀ (n : Nat) (kd : Nat → Nat) (em : Nat → Bool) (br : Nat → Bool) (ii : Nat → Int32) (oo : Nat → Int32) (np : Nat) (ea : Nat → Nat) (eb : Nat → Nat) (li : Nat → Nat) (rn : Nat → Bool) (sT : Nat → Bool) (sP : Nat → Bool) (ak : Nat) (ap : Nat → Nat) (af : Nat → Nat) (tt : Nat → Nat) (ac : Nat → Nat) (ct : Nat → Nat) (rp : Nat → Nat) (rt : Nat → Nat) (L : List Wy) (wp : Nat → Nat) (wl : Nat → Nat) (wf : Nat → Nat) (wt : Nat → Nat) (ct2 : Nat → Nat) (sT2 : Nat → Bool) (sP2 : Nat → Bool) (sa : Nat → Nat) (sb : Nat → Nat), LInv n kd em br np ea eb li rn L wp wl wf wt → ∀ (H : Heap) (locs : List Loc), wB g classes A s.heap (wW a t n kd em br ii oo np ea eb li rn (waL L) L.length sT sP ak ap af tt ac ct rp rt (mW bb t n kd em br ii oo np ea eb li rn wp wl wf wt L.length ct2 sT2 sP2 sa sb ([])) L) H locs → W p l e room_1 s m #[Value.ref b0] below meth c H locs (cells + 6) (slots + 200) Q (F0 m 652 ls [])) : W p l e room_1 s m #[Value.ref b0] below meth c H locs cells slots Q (F0 m 377 ls []) := by
  obtain ⟨⟨h1, h2, h3, h4, h5, h6, h7, h8, h9, h10⟩, g1, g2, g3⟩ := id hI
  by_cases hr : hasB L.length (xs (5 * i + 1)) = true
  · obtain ⟨j0, pa, ta, oa, fr, to0, lit, pl, tl, p1, p2, p3⟩ := Wy_at g1 hr
    obtain ⟨a1, a2, a3, a4, a5, a6, a7, a8, a9, a10, a11, a12, a13⟩ := g2 _ (List.mem_of_getElem? p3)
    obtain ⟨b1, b2, b3, b4⟩ := g3 _ _ p3
    have p4 : waL L j0 = some oa := waL_at p3
    dsimp only at a1 a2 a3 a4 a5 a6 a7 a8 a9 a10 a11 a12 a13 b1 b2 b3 b4
    have b3 : wf j0 = tl.getD 0 0 := by rw [b3, a8]
    refine lv_aload_n C0.1 C0.2.1 d_law_377 rfl (lv_at hl 1 rfl) ?_
    refine lv_aload_n C0.1 C0.2.1 d_law_378 rfl (lv_at hl 0 rfl) ?_
    refine lv_iload_n C0.1 C0.2.1 d_law_379 rfl (lv_at hl 3 rfl) ?_
    refine lv_iconst (v := nI 1) C0.1 C0.2.1 d_law_380 (by decide) ?_
    refine lv_iadd C0.1 C0.2.1 d_law_381 ?_
    refine ti (show (nI (5 * i)) + (nI 1) = nI (5 * i + 1) from nI_add _ _) ?_
    refine sld C0 hX hbl hbA hB (show 5 * i + 1 < Ls by omega) (by omega) d_law_382 ?_
    refine lv_aload_n C0.1 C0.2.1 d_law_383 rfl (lv_at hl 0 rfl) ?_
    refine lv_iload_n C0.1 C0.2.1 d_law_384 rfl (lv_at hl 3 rfl) ?_
    refine lv_iconst (v := nI 2) C0.1 C0.2.1 d_law_385 (by decide) ?_
    refine lv_iadd C0.1 C0.2.1 d_law_386 ?_
    refine ti (show (nI (5 * i)) + (nI 2) = nI (5 * i + 2) from nI_add _ _) ?_
    refine sld C0 hX hbl hbA hB (show 5 * i + 2 < Ls by omega) (by omega) d_law_387 ?_
    refine cR (As := [.int (xs (5 * i + 1)), .int (xs (5 * i + 2))]) (rest := []) C0 (Rd.as (c_WS_pipeOf j0 pa ta oa fr to0 lit pl tl g1 p1 p4 p3 (by omega) (by omega) _) (by rw [p2])) (q_LW_48 C0.2.2.2.2.1 rfl rfl ⟨Nat.le_of_ble_eq_true rfl, Nat.le_of_ble_eq_true rfl⟩) (ci := 0) (q0 := 0) rfl rfl rfl hB.1 hl.1 rfl rfl (Nat.le_of_ble_eq_true rfl) d_law_388 ⟨(show cells ≤ 600000 by omega), (show slots ≤ 7302250 by omega)⟩ ?_
    refine W.eq (g2 := F0 m 391 ls [.int (pAt pl.length (fun j => nI (pl.getD j 0)) (xs (5 * i + 2)))]) rfl ?_
    refine lv_aload_n C0.1 C0.2.1 d_law_391 rfl (lv_at hl 2 rfl) ?_
    refine lv_aload_n C0.1 C0.2.1 d_law_392 rfl (lv_at hl 0 rfl) ?_
    refine lv_iload_n C0.1 C0.2.1 d_law_393 rfl (lv_at hl 3 rfl) ?_
    refine lv_iconst (v := nI 1) C0.1 C0.2.1 d_law_394 (by decide) ?_
    refine lv_iadd C0.1 C0.2.1 d_law_395 ?_
    refine ti (show (nI (5 * i)) + (nI 1) = nI (5 * i + 1) from nI_add _ _) ?_
    refine sld C0 hX hbl hbA hB (show 5 * i + 1 < Ls by omega) (by omega) d_law_396 ?_
    refine lv_aload_n C0.1 C0.2.1 d_law_397 rfl (lv_at hl 0 rfl) ?_
    refine lv_iload_n C0.1 C0.2.1 d_law_398 rfl (lv_at hl 3 rfl) ?_
    refine lv_iconst (v := nI 2) C0.1 C0.2.1 d_law_399 (by decide) ?_
    refine lv_iadd C0.1 C0.2.1 d_law_400 ?_
    refine ti (show (nI (5 * i)) + (nI 2) = nI (5 * i + 2) from nI_add _ _) ?_
    refine sld C0 hX hbl hbA hB (show 5 * i + 2 < Ls by omega) (by omega) d_law_401 ?_
    have hM : wB g classes A s.heap (mW bb t n kd em br ii oo np ea eb li rn wp wl wf wt L.length ct2 sT2 sP2 sa sb ((wW a t n kd em br ii oo np ea eb li rn (waL L) L.length sT sP ak ap af tt ac ct rp rt ([]) ([])) ++ wy_W t L)) _ _ := wB.rot (a := (wW a t n kd em br ii oo np ea eb li rn (waL L) L.length sT sP ak ap af tt ac ct rp rt ([]) ([]))) (b := (mW bb t n kd em br ii oo np ea eb li rn wp wl wf wt L.length ct2 sT2 sP2 sa sb ([]))) (y := wy_W t L) hB
    refine cR (As := [.int (xs (5 * i + 1)), .int (xs (5 * i + 2))]) (rest := [.int (pAt pl.length (fun j => nI (pl.getD j 0)) (xs (5 * i + 2)))]) C0 (Rd.as (c_MO_pipeOf j0 pl tl (by omega) b1 b2 b3 a1 a2 a5 a3 a6 h7 h1 h2 g1 p1 _) (by rw [p2])) (q_LW_51 C0.2.2.2.2.1 rfl rfl ⟨Nat.le_of_ble_eq_true rfl, Nat.le_of_ble_eq_true rfl⟩) (ci := 5) (q0 := 0) rfl rfl rfl hM.1 hl.1 rfl rfl (Nat.le_of_ble_eq_true rfl) d_law_402 ⟨(show cells ≤ 600000 by omega), (show slots ≤ 7302250 by omega)⟩ ?_
    refine W.eq (g2 := F0 m 405 ls [.int (pAt pl.length (fun j => nI (pl.getD j 0)) (xs (5 * i + 2))), .int (pAt pl.length (fun j => nI (pl.getD j 0)) (xs (5 * i + 2)))]) rfl ?_
    refine lv_icmp_eq (tgt := 652) C0.1 C0.2.1 d_law_405 (by decide) (fun _ => ?_) (fun c_405 => ?_)
    · skip
      exact W.widen (by omega) (by omega) (K _ _ _ _ _ _ _ _ _ _ _ _ _ _ _ _ _ _ _ _ _ _ _ _ _ _ _ _ _ _ _ (hI) _ _ hB)
    · exact absurd (rfl) c_405
  · have hr := Bool.eq_false_iff.mpr hr
    refine lv_aload_n C0.1 C0.2.1 d_law_377 rfl (lv_at hl 1 rfl) ?_
    refine lv_aload_n C0.1 C0.2.1 d_law_378 rfl (lv_at hl 0 rfl) ?_
    refine lv_iload_n C0.1 C0.2.1 d_law_379 rfl (lv_at hl 3 rfl) ?_
    refine lv_iconst (v := nI 1) C0.1 C0.2.1 d_law_380 (by decide) ?_
    refine lv_iadd C0.1 C0.2.1 d_law_381 ?_
    refine ti (show (nI (5 * i)) + (nI 1) = nI (5 * i + 1) from nI_add _ _) ?_
    refine sld C0 hX hbl hbA hB (show 5 * i + 1 < Ls by omega) (by omega) d_law_382 ?_
    refine lv_aload_n C0.1 C0.2.1 d_law_383 rfl (lv_at hl 0 rfl) ?_
    refine lv_iload_n C0.1 C0.2.1 d_law_384 rfl (lv_at hl 3 rfl) ?_
    refine lv_iconst (v := nI 2) C0.1 C0.2.1 d_law_385 (by decide) ?_
    refine lv_iadd C0.1 C0.2.1 d_law_386 ?_
    refine ti (show (nI (5 * i)) + (nI 2) = nI (5 * i + 2) from nI_add _ _) ?_
    refine sld C0 hX hbl hbA hB (show 5 * i + 2 < Ls by omega) (by omega) d_law_387 ?_
    refine cR (As := [.int (xs (5 * i + 1)), .int (xs (5 * i + 2))]) (rest := []) C0 (c_WS_pipeOf_no _ g1 hr _) (q_LW_48 C0.2.2.2.2.1 rfl rfl ⟨Nat.le_of_ble_eq_true rfl, Nat.le_of_ble_eq_true rfl⟩) (ci := 0) (q0 := 0) rfl rfl rfl hB.1 hl.1 rfl rfl (Nat.le_of_ble_eq_true rfl) d_law_388 ⟨(show cells ≤ 600000 by omega), (show slots ≤ 7302250 by omega)⟩ ?_
    refine W.eq (g2 := F0 m 391 ls [.int (-2)]) rfl ?_
    refine lv_aload_n C0.1 C0.2.1 d_law_391 rfl (lv_at hl 2 rfl) ?_
    refine lv_aload_n C0.1 C0.2.1 d_law_392 rfl (lv_at hl 0 rfl) ?_
    refine lv_iload_n C0.1 C0.2.1 d_law_393 rfl (lv_at hl 3 rfl) ?_
    refine lv_iconst (v := nI 1) C0.1 C0.2.1 d_law_394 (by decide) ?_
    refine lv_iadd C0.1 C0.2.1 d_law_395 ?_
    refine ti (show (nI (5 * i)) + (nI 1) = nI (5 * i + 1) from nI_add _ _) ?_
    refine sld C0 hX hbl hbA hB (show 5 * i + 1 < Ls by omega) (by omega) d_law_396 ?_
    refine lv_aload_n C0.1 C0.2.1 d_law_397 rfl (lv_at hl 0 rfl) ?_
    refine lv_iload_n C0.1 C0.2.1 d_law_398 rfl (lv_at hl 3 rfl) ?_
    refine lv_iconst (v := nI 2) C0.1 C0.2.1 d_law_399 (by decide) ?_
    refine lv_iadd C0.1 C0.2.1 d_law_400 ?_
    refine ti (show (nI (5 * i)) + (nI 2) = nI (5 * i + 2) from nI_add _ _) ?_
    refine sld C0 hX hbl hbA hB (show 5 * i + 2 < Ls by omega) (by omega) d_law_401 ?_
    have hM : wB g classes A s.heap (mW bb t n kd em br ii oo np ea eb li rn wp wl wf wt L.length ct2 sT2 sP2 sa sb ((wW a t n kd em br ii oo np ea eb li rn (waL L) L.length sT sP ak ap af tt ac ct rp rt ([]) ([])) ++ wy_W t L)) _ _ := wB.rot (a := (wW a t n kd em br ii oo np ea eb li rn (waL L) L.length sT sP ak ap af tt ac ct rp rt ([]) ([]))) (b := (mW bb t n kd em br ii oo np ea eb li rn wp wl wf wt L.length ct2 sT2 sP2 sa sb ([]))) (y := wy_W t L) hB
    refine cR (As := [.int (xs (5 * i + 1)), .int (xs (5 * i + 2))]) (rest := [.int (-2)]) C0 (c_MO_pipeOf_no _ g1 hr _) (q_LW_51 C0.2.2.2.2.1 rfl rfl ⟨Nat.le_of_ble_eq_true rfl, Nat.le_of_ble_eq_true rfl⟩) (ci := 5) (q0 := 0) rfl rfl rfl hM.1 hl.1 rfl rfl (Nat.le_of_ble_eq_true rfl) d_law_402 ⟨(show cells ≤ 600000 by omega), (show slots ≤ 7302250 by omega)⟩ ?_
    refine W.eq (g2 := F0 m 405 ls [.int (-2), .int (-2)]) rfl ?_
    refine lv_icmp_eq (tgt := 652) C0.1 C0.2.1 d_law_405 (by decide) (fun _ => ?_) (fun c_405 => ?_)
    · skip
      exact W.widen (by omega) (by omega) (K _ _ _ _ _ _ _ _ _ _ _ _ _ _ _ _ _ _ _ _ _ _ _ _ _ _ _ _ _ _ _ (hI) _ _ hB)
    · exact absurd (rfl) c_405
set_option maxHeartbeats 4000000 in
set_option maxRecDepth 100000 in
theorem lc_8 {p : Program} {l : Launch} {e : Env} {s : State} {m : MethodId} {below : List Frame} {meth : Method} {c : Code} {g : va_G} {t : Nat → ClassId} {a bb : Nat → Nat} {b0 Ls : Nat} {xs : Nat → Int32} {A : Nat → Prop} (C0 : cX p m c code 4 s #[Value.ref b0] R_LW g classes (tyL t)) (hX : va_X b0 Ls xs s s.heap) (hbl : b0 < s.heap.size) (hbA : ¬ A b0) (hLs : Ls ≤ 2560) {i : Nat} (hi : 5 * i + 5 ≤ Ls) {ls : Array Slot} (hl : lv_has ls 4 [(0, .ref b0), (1, .ref (a 0)), (2, .ref (bb 0)), (3, .int (nI (5 * i)))]) {cells slots : Nat} (hcc : cells + 6 ≤ 600000) (hss : slots + 200 ≤ 7302250) {Q : State → Prop} {n : Nat} {kd : Nat → Nat} {em : Nat → Bool} {br : Nat → Bool} {ii : Nat → Int32} {oo : Nat → Int32} {np : Nat} {ea : Nat → Nat} {eb : Nat → Nat} {li : Nat → Nat} {rn : Nat → Bool} {sT : Nat → Bool} {sP : Nat → Bool} {ak : Nat} {ap : Nat → Nat} {af : Nat → Nat} {tt : Nat → Nat} {ac : Nat → Nat} {ct : Nat → Nat} {rp : Nat → Nat} {rt : Nat → Nat} {L : List Wy} {wp : Nat → Nat} {wl : Nat → Nat} {wf : Nat → Nat} {wt : Nat → Nat} {ct2 : Nat → Nat} {sT2 : Nat → Bool} {sP2 : Nat → Bool} {sa : Nat → Nat} {sb : Nat → Nat} {H : Heap} {locs : List Loc} (hI : LInv n kd em br np ea eb li rn L wp wl wf wt) (hB : wB g classes A s.heap (wW a t n kd em br ii oo np ea eb li rn (waL L) L.length sT sP ak ap af tt ac ct rp rt (mW bb t n kd em br ii oo np ea eb li rn wp wl wf wt L.length ct2 sT2 sP2 sa sb ([])) L) H locs) (K : ∀ (n : Nat) (kd : Nat → Nat) (em : Nat → Bool) (br : Nat → Bool) (ii : Nat → Int32) (oo : Nat → Int32) (np : Nat) (ea : Nat → Nat) (eb : Nat → Nat) (li : Nat → Nat) (rn : Nat → Bool) (sT : Nat → Bool) (sP : Nat → Bool) (ak : Nat) (ap : Nat → Nat) (af : Nat → Nat) (tt : Nat → Nat) (ac : Nat → Nat) (ct : Nat → Nat) (rp : Nat → Nat) (rt : Nat → Nat) (L : List Wy) (wp : Nat → Nat) (wl : Nat → Nat) (wf : Nat → Nat) (wt : Nat → Nat) (ct2 : Nat → Nat) (sT2 : Nat → Bool) (sP2 : Nat → Bool) (sa : Nat → Nat) (sb : Nat → Nat), LInv n kd em br np ea eb li rn L wp wl wf wt → ∀ (H : Heap) (locs : List Loc), wB g classes A s.heap (wW a t n kd em br ii oo np ea eb li rn (waL L) L.length sT sP ak ap af tt ac ct rp rt (mW bb t n kd em br ii oo np ea eb li rn wp wl wf wt L.length ct2 sT2 sP2 sa sb ([])) L) H locs → W p l e room_1 s m #[Value.ref b0] below meth c H locs (cells + 6) (slots + 200) Q (F0 m 652 ls [])) : W p l e room_1 s m #[Value.ref b0] below meth c H locs cells slots Q (F0 m 410 ls []) := by
  obtain ⟨⟨h1, h2, h3, h4, h5, h6, h7, h8, h9, h10⟩, g1, g2, g3⟩ := id hI
  by_cases hr : hasB L.length (xs (5 * i + 1)) = true
  · obtain ⟨j0, pa, ta, oa, fr, to0, lit, pl, tl, p1, p2, p3⟩ := Wy_at g1 hr
    obtain ⟨a1, a2, a3, a4, a5, a6, a7, a8, a9, a10, a11, a12, a13⟩ := g2 _ (List.mem_of_getElem? p3)
    obtain ⟨b1, b2, b3, b4⟩ := g3 _ _ p3
    have p4 : waL L j0 = some oa := waL_at p3
    dsimp only at a1 a2 a3 a4 a5 a6 a7 a8 a9 a10 a11 a12 a13 b1 b2 b3 b4
    have b3 : wf j0 = tl.getD 0 0 := by rw [b3, a8]
    refine lv_aload_n C0.1 C0.2.1 d_law_410 rfl (lv_at hl 1 rfl) ?_
    refine lv_aload_n C0.1 C0.2.1 d_law_411 rfl (lv_at hl 0 rfl) ?_
    refine lv_iload_n C0.1 C0.2.1 d_law_412 rfl (lv_at hl 3 rfl) ?_
    refine lv_iconst (v := nI 1) C0.1 C0.2.1 d_law_413 (by decide) ?_
    refine lv_iadd C0.1 C0.2.1 d_law_414 ?_
    refine ti (show (nI (5 * i)) + (nI 1) = nI (5 * i + 1) from nI_add _ _) ?_
    refine sld C0 hX hbl hbA hB (show 5 * i + 1 < Ls by omega) (by omega) d_law_415 ?_
    refine lv_aload_n C0.1 C0.2.1 d_law_416 rfl (lv_at hl 0 rfl) ?_
    refine lv_iload_n C0.1 C0.2.1 d_law_417 rfl (lv_at hl 3 rfl) ?_
    refine lv_iconst (v := nI 2) C0.1 C0.2.1 d_law_418 (by decide) ?_
    refine lv_iadd C0.1 C0.2.1 d_law_419 ?_
    refine ti (show (nI (5 * i)) + (nI 2) = nI (5 * i + 2) from nI_add _ _) ?_
    refine sld C0 hX hbl hbA hB (show 5 * i + 2 < Ls by omega) (by omega) d_law_420 ?_
    refine cR (As := [.int (xs (5 * i + 1)), .int (xs (5 * i + 2))]) (rest := []) C0 (Rd.as (c_WS_valveOf j0 pa ta oa fr to0 lit pl tl g1 p1 p4 p3 (by omega) (by omega) _ a2 h1 h3) (by rw [p2])) (q_LW_52 C0.2.2.2.2.1 rfl rfl ⟨Nat.le_of_ble_eq_true rfl, Nat.le_of_ble_eq_true rfl⟩) (ci := 0) (q0 := 0) rfl rfl rfl hB.1 hl.1 rfl rfl (Nat.le_of_ble_eq_true rfl) d_law_421 ⟨(show cells ≤ 600000 by omega), (show slots ≤ 7302250 by omega)⟩ ?_
    refine W.eq (g2 := F0 m 424 ls [.int (vOf kd tl (xs (5 * i + 2)))]) rfl ?_
    refine lv_aload_n C0.1 C0.2.1 d_law_424 rfl (lv_at hl 2 rfl) ?_
    refine lv_aload_n C0.1 C0.2.1 d_law_425 rfl (lv_at hl 0 rfl) ?_
    refine lv_iload_n C0.1 C0.2.1 d_law_426 rfl (lv_at hl 3 rfl) ?_
    refine lv_iconst (v := nI 1) C0.1 C0.2.1 d_law_427 (by decide) ?_
    refine lv_iadd C0.1 C0.2.1 d_law_428 ?_
    refine ti (show (nI (5 * i)) + (nI 1) = nI (5 * i + 1) from nI_add _ _) ?_
    refine sld C0 hX hbl hbA hB (show 5 * i + 1 < Ls by omega) (by omega) d_law_429 ?_
    refine lv_aload_n C0.1 C0.2.1 d_law_430 rfl (lv_at hl 0 rfl) ?_
    refine lv_iload_n C0.1 C0.2.1 d_law_431 rfl (lv_at hl 3 rfl) ?_
    refine lv_iconst (v := nI 2) C0.1 C0.2.1 d_law_432 (by decide) ?_
    refine lv_iadd C0.1 C0.2.1 d_law_433 ?_
    refine ti (show (nI (5 * i)) + (nI 2) = nI (5 * i + 2) from nI_add _ _) ?_
    refine sld C0 hX hbl hbA hB (show 5 * i + 2 < Ls by omega) (by omega) d_law_434 ?_
    have hM : wB g classes A s.heap (mW bb t n kd em br ii oo np ea eb li rn wp wl wf wt L.length ct2 sT2 sP2 sa sb ((wW a t n kd em br ii oo np ea eb li rn (waL L) L.length sT sP ak ap af tt ac ct rp rt ([]) ([])) ++ wy_W t L)) _ _ := wB.rot (a := (wW a t n kd em br ii oo np ea eb li rn (waL L) L.length sT sP ak ap af tt ac ct rp rt ([]) ([]))) (b := (mW bb t n kd em br ii oo np ea eb li rn wp wl wf wt L.length ct2 sT2 sP2 sa sb ([]))) (y := wy_W t L) hB
    refine cR (As := [.int (xs (5 * i + 1)), .int (xs (5 * i + 2))]) (rest := [.int (vOf kd tl (xs (5 * i + 2)))]) C0 (Rd.as (c_MO_valveOf j0 pl tl (by omega) b1 b2 b3 a1 a2 a5 a3 a6 h7 h1 h2 g1 p1 _ h3 (by rw [← a8, a11]; decide)) (by rw [p2])) (q_LW_55 C0.2.2.2.2.1 rfl rfl ⟨Nat.le_of_ble_eq_true rfl, Nat.le_of_ble_eq_true rfl⟩) (ci := 5) (q0 := 0) rfl rfl rfl hM.1 hl.1 rfl rfl (Nat.le_of_ble_eq_true rfl) d_law_435 ⟨(show cells ≤ 600000 by omega), (show slots ≤ 7302250 by omega)⟩ ?_
    refine W.eq (g2 := F0 m 438 ls [.int (vOf kd tl (xs (5 * i + 2))), .int (vOf kd tl (xs (5 * i + 2)))]) rfl ?_
    refine lv_icmp_eq (tgt := 652) C0.1 C0.2.1 d_law_438 (by decide) (fun _ => ?_) (fun c_438 => ?_)
    · skip
      exact W.widen (by omega) (by omega) (K _ _ _ _ _ _ _ _ _ _ _ _ _ _ _ _ _ _ _ _ _ _ _ _ _ _ _ _ _ _ _ (hI) _ _ hB)
    · exact absurd (rfl) c_438
  · have hr := Bool.eq_false_iff.mpr hr
    refine lv_aload_n C0.1 C0.2.1 d_law_410 rfl (lv_at hl 1 rfl) ?_
    refine lv_aload_n C0.1 C0.2.1 d_law_411 rfl (lv_at hl 0 rfl) ?_
    refine lv_iload_n C0.1 C0.2.1 d_law_412 rfl (lv_at hl 3 rfl) ?_
    refine lv_iconst (v := nI 1) C0.1 C0.2.1 d_law_413 (by decide) ?_
    refine lv_iadd C0.1 C0.2.1 d_law_414 ?_
    refine ti (show (nI (5 * i)) + (nI 1) = nI (5 * i + 1) from nI_add _ _) ?_
    refine sld C0 hX hbl hbA hB (show 5 * i + 1 < Ls by omega) (by omega) d_law_415 ?_
    refine lv_aload_n C0.1 C0.2.1 d_law_416 rfl (lv_at hl 0 rfl) ?_
    refine lv_iload_n C0.1 C0.2.1 d_law_417 rfl (lv_at hl 3 rfl) ?_
    refine lv_iconst (v := nI 2) C0.1 C0.2.1 d_law_418 (by decide) ?_
    refine lv_iadd C0.1 C0.2.1 d_law_419 ?_
    refine ti (show (nI (5 * i)) + (nI 2) = nI (5 * i + 2) from nI_add _ _) ?_
    refine sld C0 hX hbl hbA hB (show 5 * i + 2 < Ls by omega) (by omega) d_law_420 ?_
    refine cR (As := [.int (xs (5 * i + 1)), .int (xs (5 * i + 2))]) (rest := []) C0 (c_WS_valveOf_no _ g1 hr _) (q_LW_52 C0.2.2.2.2.1 rfl rfl ⟨Nat.le_of_ble_eq_true rfl, Nat.le_of_ble_eq_true rfl⟩) (ci := 0) (q0 := 0) rfl rfl rfl hB.1 hl.1 rfl rfl (Nat.le_of_ble_eq_true rfl) d_law_421 ⟨(show cells ≤ 600000 by omega), (show slots ≤ 7302250 by omega)⟩ ?_
    refine W.eq (g2 := F0 m 424 ls [.int (-2)]) rfl ?_
    refine lv_aload_n C0.1 C0.2.1 d_law_424 rfl (lv_at hl 2 rfl) ?_
    refine lv_aload_n C0.1 C0.2.1 d_law_425 rfl (lv_at hl 0 rfl) ?_
    refine lv_iload_n C0.1 C0.2.1 d_law_426 rfl (lv_at hl 3 rfl) ?_
    refine lv_iconst (v := nI 1) C0.1 C0.2.1 d_law_427 (by decide) ?_
    refine lv_iadd C0.1 C0.2.1 d_law_428 ?_
    refine ti (show (nI (5 * i)) + (nI 1) = nI (5 * i + 1) from nI_add _ _) ?_
    refine sld C0 hX hbl hbA hB (show 5 * i + 1 < Ls by omega) (by omega) d_law_429 ?_
    refine lv_aload_n C0.1 C0.2.1 d_law_430 rfl (lv_at hl 0 rfl) ?_
    refine lv_iload_n C0.1 C0.2.1 d_law_431 rfl (lv_at hl 3 rfl) ?_
    refine lv_iconst (v := nI 2) C0.1 C0.2.1 d_law_432 (by decide) ?_
    refine lv_iadd C0.1 C0.2.1 d_law_433 ?_
    refine ti (show (nI (5 * i)) + (nI 2) = nI (5 * i + 2) from nI_add _ _) ?_
    refine sld C0 hX hbl hbA hB (show 5 * i + 2 < Ls by omega) (by omega) d_law_434 ?_
    have hM : wB g classes A s.heap (mW bb t n kd em br ii oo np ea eb li rn wp wl wf wt L.length ct2 sT2 sP2 sa sb ((wW a t n kd em br ii oo np ea eb li rn (waL L) L.length sT sP ak ap af tt ac ct rp rt ([]) ([])) ++ wy_W t L)) _ _ := wB.rot (a := (wW a t n kd em br ii oo np ea eb li rn (waL L) L.length sT sP ak ap af tt ac ct rp rt ([]) ([]))) (b := (mW bb t n kd em br ii oo np ea eb li rn wp wl wf wt L.length ct2 sT2 sP2 sa sb ([]))) (y := wy_W t L) hB
    refine cR (As := [.int (xs (5 * i + 1)), .int (xs (5 * i + 2))]) (rest := [.int (-2)]) C0 (c_MO_valveOf_no _ g1 hr _) (q_LW_55 C0.2.2.2.2.1 rfl rfl ⟨Nat.le_of_ble_eq_true rfl, Nat.le_of_ble_eq_true rfl⟩) (ci := 5) (q0 := 0) rfl rfl rfl hM.1 hl.1 rfl rfl (Nat.le_of_ble_eq_true rfl) d_law_435 ⟨(show cells ≤ 600000 by omega), (show slots ≤ 7302250 by omega)⟩ ?_
    refine W.eq (g2 := F0 m 438 ls [.int (-2), .int (-2)]) rfl ?_
    refine lv_icmp_eq (tgt := 652) C0.1 C0.2.1 d_law_438 (by decide) (fun _ => ?_) (fun c_438 => ?_)
    · skip
      exact W.widen (by omega) (by omega) (K _ _ _ _ _ _ _ _ _ _ _ _ _ _ _ _ _ _ _ _ _ _ _ _ _ _ _ _ _ _ _ (hI) _ _ hB)
    · exact absurd (rfl) c_438
set_option maxHeartbeats 4000000 in
set_option maxRecDepth 100000 in
theorem lc_9 {p : Program} {l : Launch} {e : Env} {s : State} {m : MethodId} {below : List Frame} {meth : Method} {c : Code} {g : va_G} {t : Nat → ClassId} {a bb : Nat → Nat} {b0 Ls : Nat} {xs : Nat → Int32} {A : Nat → Prop} (C0 : cX p m c code 4 s #[Value.ref b0] R_LW g classes (tyL t)) (hX : va_X b0 Ls xs s s.heap) (hbl : b0 < s.heap.size) (hbA : ¬ A b0) (hLs : Ls ≤ 2560) {i : Nat} (hi : 5 * i + 5 ≤ Ls) {ls : Array Slot} (hl : lv_has ls 4 [(0, .ref b0), (1, .ref (a 0)), (2, .ref (bb 0)), (3, .int (nI (5 * i)))]) {cells slots : Nat} (hcc : cells + 6 ≤ 600000) (hss : slots + 200 ≤ 7302250) {Q : State → Prop} {n : Nat} {kd : Nat → Nat} {em : Nat → Bool} {br : Nat → Bool} {ii : Nat → Int32} {oo : Nat → Int32} {np : Nat} {ea : Nat → Nat} {eb : Nat → Nat} {li : Nat → Nat} {rn : Nat → Bool} {sT : Nat → Bool} {sP : Nat → Bool} {ak : Nat} {ap : Nat → Nat} {af : Nat → Nat} {tt : Nat → Nat} {ac : Nat → Nat} {ct : Nat → Nat} {rp : Nat → Nat} {rt : Nat → Nat} {L : List Wy} {wp : Nat → Nat} {wl : Nat → Nat} {wf : Nat → Nat} {wt : Nat → Nat} {ct2 : Nat → Nat} {sT2 : Nat → Bool} {sP2 : Nat → Bool} {sa : Nat → Nat} {sb : Nat → Nat} {H : Heap} {locs : List Loc} (hI : LInv n kd em br np ea eb li rn L wp wl wf wt) (hB : wB g classes A s.heap (wW a t n kd em br ii oo np ea eb li rn (waL L) L.length sT sP ak ap af tt ac ct rp rt (mW bb t n kd em br ii oo np ea eb li rn wp wl wf wt L.length ct2 sT2 sP2 sa sb ([])) L) H locs) (K : ∀ (n : Nat) (kd : Nat → Nat) (em : Nat → Bool) (br : Nat → Bool) (ii : Nat → Int32) (oo : Nat → Int32) (np : Nat) (ea : Nat → Nat) (eb : Nat → Nat) (li : Nat → Nat) (rn : Nat → Bool) (sT : Nat → Bool) (sP : Nat → Bool) (ak : Nat) (ap : Nat → Nat) (af : Nat → Nat) (tt : Nat → Nat) (ac : Nat → Nat) (ct : Nat → Nat) (rp : Nat → Nat) (rt : Nat → Nat) (L : List Wy) (wp : Nat → Nat) (wl : Nat → Nat) (wf : Nat → Nat) (wt : Nat → Nat) (ct2 : Nat → Nat) (sT2 : Nat → Bool) (sP2 : Nat → Bool) (sa : Nat → Nat) (sb : Nat → Nat), LInv n kd em br np ea eb li rn L wp wl wf wt → ∀ (H : Heap) (locs : List Loc), wB g classes A s.heap (wW a t n kd em br ii oo np ea eb li rn (waL L) L.length sT sP ak ap af tt ac ct rp rt (mW bb t n kd em br ii oo np ea eb li rn wp wl wf wt L.length ct2 sT2 sP2 sa sb ([])) L) H locs → W p l e room_1 s m #[Value.ref b0] below meth c H locs (cells + 6) (slots + 200) Q (F0 m 652 ls [])) : W p l e room_1 s m #[Value.ref b0] below meth c H locs cells slots Q (F0 m 443 ls []) := by
  obtain ⟨⟨h1, h2, h3, h4, h5, h6, h7, h8, h9, h10⟩, g1, g2, g3⟩ := id hI
  by_cases hr : hasB L.length (xs (5 * i + 1)) = true
  · obtain ⟨j0, pa, ta, oa, fr, to0, lit, pl, tl, p1, p2, p3⟩ := Wy_at g1 hr
    obtain ⟨a1, a2, a3, a4, a5, a6, a7, a8, a9, a10, a11, a12, a13⟩ := g2 _ (List.mem_of_getElem? p3)
    obtain ⟨b1, b2, b3, b4⟩ := g3 _ _ p3
    have p4 : waL L j0 = some oa := waL_at p3
    dsimp only at a1 a2 a3 a4 a5 a6 a7 a8 a9 a10 a11 a12 a13 b1 b2 b3 b4
    have b3 : wf j0 = tl.getD 0 0 := by rw [b3, a8]
    refine lv_aload_n C0.1 C0.2.1 d_law_443 rfl (lv_at hl 1 rfl) ?_
    refine lv_aload_n C0.1 C0.2.1 d_law_444 rfl (lv_at hl 0 rfl) ?_
    refine lv_iload_n C0.1 C0.2.1 d_law_445 rfl (lv_at hl 3 rfl) ?_
    refine lv_iconst (v := nI 1) C0.1 C0.2.1 d_law_446 (by decide) ?_
    refine lv_iadd C0.1 C0.2.1 d_law_447 ?_
    refine ti (show (nI (5 * i)) + (nI 1) = nI (5 * i + 1) from nI_add _ _) ?_
    refine sld C0 hX hbl hbA hB (show 5 * i + 1 < Ls by omega) (by omega) d_law_448 ?_
    refine cR (As := [.int (xs (5 * i + 1))]) (rest := []) C0 (Rd.as (c_WS_rest j0 pa ta oa fr to0 lit pl tl g1 p1 p4 p3 (by omega) (by omega)) (by rw [p2])) (q_LW_56 C0.2.2.2.2.1 rfl rfl ⟨Nat.le_of_ble_eq_true rfl, Nat.le_of_ble_eq_true rfl⟩) (ci := 0) (q0 := 0) rfl rfl rfl hB.1 hl.1 rfl rfl (Nat.le_of_ble_eq_true rfl) d_law_449 ⟨(show cells ≤ 600000 by omega), (show slots ≤ 7302250 by omega)⟩ ?_
    refine W.eq (g2 := F0 m 452 ls [.long (lN lit)]) rfl ?_
    refine lv_aload_n C0.1 C0.2.1 d_law_452 rfl (lv_at hl 2 rfl) ?_
    refine lv_aload_n C0.1 C0.2.1 d_law_453 rfl (lv_at hl 0 rfl) ?_
    refine lv_iload_n C0.1 C0.2.1 d_law_454 rfl (lv_at hl 3 rfl) ?_
    refine lv_iconst (v := nI 1) C0.1 C0.2.1 d_law_455 (by decide) ?_
    refine lv_iadd C0.1 C0.2.1 d_law_456 ?_
    refine ti (show (nI (5 * i)) + (nI 1) = nI (5 * i + 1) from nI_add _ _) ?_
    refine sld C0 hX hbl hbA hB (show 5 * i + 1 < Ls by omega) (by omega) d_law_457 ?_
    have hM : wB g classes A s.heap (mW bb t n kd em br ii oo np ea eb li rn wp wl wf wt L.length ct2 sT2 sP2 sa sb ((wW a t n kd em br ii oo np ea eb li rn (waL L) L.length sT sP ak ap af tt ac ct rp rt ([]) ([])) ++ wy_W t L)) _ _ := wB.rot (a := (wW a t n kd em br ii oo np ea eb li rn (waL L) L.length sT sP ak ap af tt ac ct rp rt ([]) ([]))) (b := (mW bb t n kd em br ii oo np ea eb li rn wp wl wf wt L.length ct2 sT2 sP2 sa sb ([]))) (y := wy_W t L) hB
    refine cR (As := [.int (xs (5 * i + 1))]) (rest := [.long (lN lit)]) C0 (Rd.as (c_MO_rest j0 pl tl (by omega) b1 b2 b3 a1 a2 a5 a3 a6 h7 h1 h2 g1 p1) (by rw [p2])) (q_LW_60 C0.2.2.2.2.1 rfl rfl ⟨Nat.le_of_ble_eq_true rfl, Nat.le_of_ble_eq_true rfl⟩) (ci := 5) (q0 := 0) rfl rfl rfl hM.1 hl.1 rfl rfl (Nat.le_of_ble_eq_true rfl) d_law_458 ⟨(show cells ≤ 600000 by omega), (show slots ≤ 7302250 by omega)⟩ ?_
    refine W.eq (g2 := F0 m 461 ls [.long (lN (sumP li pl pl.length)), .long (lN lit)]) rfl ?_
    refine W.lcmp C0.1 C0.2.1 d_law_461 ?_
    refine lv_if_eq (tgt := 652) C0.1 C0.2.1 d_law_462 (by decide) (fun _ => ?_) (fun c_462 => ?_)
    · exact W.widen (by omega) (by omega) (K _ _ _ _ _ _ _ _ _ _ _ _ _ _ _ _ _ _ _ _ _ _ _ _ _ _ _ _ _ _ _ (hI) _ _ hB)
    · exact absurd ((lg_cmp_eq _ _).mpr (by rw [a7])) c_462
  · have hr := Bool.eq_false_iff.mpr hr
    refine lv_aload_n C0.1 C0.2.1 d_law_443 rfl (lv_at hl 1 rfl) ?_
    refine lv_aload_n C0.1 C0.2.1 d_law_444 rfl (lv_at hl 0 rfl) ?_
    refine lv_iload_n C0.1 C0.2.1 d_law_445 rfl (lv_at hl 3 rfl) ?_
    refine lv_iconst (v := nI 1) C0.1 C0.2.1 d_law_446 (by decide) ?_
    refine lv_iadd C0.1 C0.2.1 d_law_447 ?_
    refine ti (show (nI (5 * i)) + (nI 1) = nI (5 * i + 1) from nI_add _ _) ?_
    refine sld C0 hX hbl hbA hB (show 5 * i + 1 < Ls by omega) (by omega) d_law_448 ?_
    refine cR (As := [.int (xs (5 * i + 1))]) (rest := []) C0 (c_WS_rest_no _ g1 hr) (q_LW_56 C0.2.2.2.2.1 rfl rfl ⟨Nat.le_of_ble_eq_true rfl, Nat.le_of_ble_eq_true rfl⟩) (ci := 0) (q0 := 0) rfl rfl rfl hB.1 hl.1 rfl rfl (Nat.le_of_ble_eq_true rfl) d_law_449 ⟨(show cells ≤ 600000 by omega), (show slots ≤ 7302250 by omega)⟩ ?_
    refine W.eq (g2 := F0 m 452 ls [.long (-2)]) rfl ?_
    refine lv_aload_n C0.1 C0.2.1 d_law_452 rfl (lv_at hl 2 rfl) ?_
    refine lv_aload_n C0.1 C0.2.1 d_law_453 rfl (lv_at hl 0 rfl) ?_
    refine lv_iload_n C0.1 C0.2.1 d_law_454 rfl (lv_at hl 3 rfl) ?_
    refine lv_iconst (v := nI 1) C0.1 C0.2.1 d_law_455 (by decide) ?_
    refine lv_iadd C0.1 C0.2.1 d_law_456 ?_
    refine ti (show (nI (5 * i)) + (nI 1) = nI (5 * i + 1) from nI_add _ _) ?_
    refine sld C0 hX hbl hbA hB (show 5 * i + 1 < Ls by omega) (by omega) d_law_457 ?_
    have hM : wB g classes A s.heap (mW bb t n kd em br ii oo np ea eb li rn wp wl wf wt L.length ct2 sT2 sP2 sa sb ((wW a t n kd em br ii oo np ea eb li rn (waL L) L.length sT sP ak ap af tt ac ct rp rt ([]) ([])) ++ wy_W t L)) _ _ := wB.rot (a := (wW a t n kd em br ii oo np ea eb li rn (waL L) L.length sT sP ak ap af tt ac ct rp rt ([]) ([]))) (b := (mW bb t n kd em br ii oo np ea eb li rn wp wl wf wt L.length ct2 sT2 sP2 sa sb ([]))) (y := wy_W t L) hB
    refine cR (As := [.int (xs (5 * i + 1))]) (rest := [.long (-2)]) C0 (c_MO_rest_no _ g1 hr) (q_LW_60 C0.2.2.2.2.1 rfl rfl ⟨Nat.le_of_ble_eq_true rfl, Nat.le_of_ble_eq_true rfl⟩) (ci := 5) (q0 := 0) rfl rfl rfl hM.1 hl.1 rfl rfl (Nat.le_of_ble_eq_true rfl) d_law_458 ⟨(show cells ≤ 600000 by omega), (show slots ≤ 7302250 by omega)⟩ ?_
    refine W.eq (g2 := F0 m 461 ls [.long (-2), .long (-2)]) rfl ?_
    refine W.lcmp C0.1 C0.2.1 d_law_461 ?_
    refine lv_if_eq (tgt := 652) C0.1 C0.2.1 d_law_462 (by decide) (fun _ => ?_) (fun c_462 => ?_)
    · exact W.widen (by omega) (by omega) (K _ _ _ _ _ _ _ _ _ _ _ _ _ _ _ _ _ _ _ _ _ _ _ _ _ _ _ _ _ _ _ (hI) _ _ hB)
    · exact absurd ((lg_cmp_eq _ _).mpr (rfl)) c_462
set_option maxHeartbeats 4000000 in
set_option maxRecDepth 100000 in
theorem lc_14 {p : Program} {l : Launch} {e : Env} {s : State} {m : MethodId} {below : List Frame} {meth : Method} {c : Code} {g : va_G} {t : Nat → ClassId} {a bb : Nat → Nat} {b0 Ls : Nat} {xs : Nat → Int32} {A : Nat → Prop} (C0 : cX p m c code 4 s #[Value.ref b0] R_LW g classes (tyL t)) (hX : va_X b0 Ls xs s s.heap) (hbl : b0 < s.heap.size) (hbA : ¬ A b0) (hLs : Ls ≤ 2560) {i : Nat} (hi : 5 * i + 5 ≤ Ls) {ls : Array Slot} (hl : lv_has ls 4 [(0, .ref b0), (1, .ref (a 0)), (2, .ref (bb 0)), (3, .int (nI (5 * i)))]) {cells slots : Nat} (hcc : cells + 6 ≤ 600000) (hss : slots + 200 ≤ 7302250) {Q : State → Prop} {n : Nat} {kd : Nat → Nat} {em : Nat → Bool} {br : Nat → Bool} {ii : Nat → Int32} {oo : Nat → Int32} {np : Nat} {ea : Nat → Nat} {eb : Nat → Nat} {li : Nat → Nat} {rn : Nat → Bool} {sT : Nat → Bool} {sP : Nat → Bool} {ak : Nat} {ap : Nat → Nat} {af : Nat → Nat} {tt : Nat → Nat} {ac : Nat → Nat} {ct : Nat → Nat} {rp : Nat → Nat} {rt : Nat → Nat} {L : List Wy} {wp : Nat → Nat} {wl : Nat → Nat} {wf : Nat → Nat} {wt : Nat → Nat} {ct2 : Nat → Nat} {sT2 : Nat → Bool} {sP2 : Nat → Bool} {sa : Nat → Nat} {sb : Nat → Nat} {H : Heap} {locs : List Loc} (hI : LInv n kd em br np ea eb li rn L wp wl wf wt) (hB : wB g classes A s.heap (wW a t n kd em br ii oo np ea eb li rn (waL L) L.length sT sP ak ap af tt ac ct rp rt (mW bb t n kd em br ii oo np ea eb li rn wp wl wf wt L.length ct2 sT2 sP2 sa sb ([])) L) H locs) (K : ∀ (n : Nat) (kd : Nat → Nat) (em : Nat → Bool) (br : Nat → Bool) (ii : Nat → Int32) (oo : Nat → Int32) (np : Nat) (ea : Nat → Nat) (eb : Nat → Nat) (li : Nat → Nat) (rn : Nat → Bool) (sT : Nat → Bool) (sP : Nat → Bool) (ak : Nat) (ap : Nat → Nat) (af : Nat → Nat) (tt : Nat → Nat) (ac : Nat → Nat) (ct : Nat → Nat) (rp : Nat → Nat) (rt : Nat → Nat) (L : List Wy) (wp : Nat → Nat) (wl : Nat → Nat) (wf : Nat → Nat) (wt : Nat → Nat) (ct2 : Nat → Nat) (sT2 : Nat → Bool) (sP2 : Nat → Bool) (sa : Nat → Nat) (sb : Nat → Nat), LInv n kd em br np ea eb li rn L wp wl wf wt → ∀ (H : Heap) (locs : List Loc), wB g classes A s.heap (wW a t n kd em br ii oo np ea eb li rn (waL L) L.length sT sP ak ap af tt ac ct rp rt (mW bb t n kd em br ii oo np ea eb li rn wp wl wf wt L.length ct2 sT2 sP2 sa sb ([])) L) H locs → W p l e room_1 s m #[Value.ref b0] below meth c H locs (cells + 6) (slots + 200) Q (F0 m 652 ls [])) : W p l e room_1 s m #[Value.ref b0] below meth c H locs cells slots Q (F0 m 619 ls []) := by
  obtain ⟨⟨h1, h2, h3, h4, h5, h6, h7, h8, h9, h10⟩, g1, g2, g3⟩ := id hI
  by_cases hr : hasB L.length (xs (5 * i + 1)) = true
  · obtain ⟨j0, pa, ta, oa, fr, to0, lit, pl, tl, p1, p2, p3⟩ := Wy_at g1 hr
    obtain ⟨a1, a2, a3, a4, a5, a6, a7, a8, a9, a10, a11, a12, a13⟩ := g2 _ (List.mem_of_getElem? p3)
    obtain ⟨b1, b2, b3, b4⟩ := g3 _ _ p3
    have p4 : waL L j0 = some oa := waL_at p3
    dsimp only at a1 a2 a3 a4 a5 a6 a7 a8 a9 a10 a11 a12 a13 b1 b2 b3 b4
    have b3 : wf j0 = tl.getD 0 0 := by rw [b3, a8]
    by_cases hq : hasB pl.length (xs (5 * i + 2)) = true
    · obtain ⟨k0, q1, q2⟩ := hasB_ex (by omega) hq
      refine lv_aload_n C0.1 C0.2.1 d_law_619 rfl (lv_at hl 1 rfl) ?_
      refine lv_aload_n C0.1 C0.2.1 d_law_620 rfl (lv_at hl 0 rfl) ?_
      refine lv_iload_n C0.1 C0.2.1 d_law_621 rfl (lv_at hl 3 rfl) ?_
      refine lv_iconst (v := nI 1) C0.1 C0.2.1 d_law_622 (by decide) ?_
      refine lv_iadd C0.1 C0.2.1 d_law_623 ?_
      refine ti (show (nI (5 * i)) + (nI 1) = nI (5 * i + 1) from nI_add _ _) ?_
      refine sld C0 hX hbl hbA hB (show 5 * i + 1 < Ls by omega) (by omega) d_law_624 ?_
      refine lv_aload_n C0.1 C0.2.1 d_law_625 rfl (lv_at hl 0 rfl) ?_
      refine lv_iload_n C0.1 C0.2.1 d_law_626 rfl (lv_at hl 3 rfl) ?_
      refine lv_iconst (v := nI 2) C0.1 C0.2.1 d_law_627 (by decide) ?_
      refine lv_iadd C0.1 C0.2.1 d_law_628 ?_
      refine ti (show (nI (5 * i)) + (nI 2) = nI (5 * i + 2) from nI_add _ _) ?_
      refine sld C0 hX hbl hbA hB (show 5 * i + 2 < Ls by omega) (by omega) d_law_629 ?_
      refine cR (As := [.int (xs (5 * i + 1)), .int (xs (5 * i + 2))]) (rest := []) C0 (Rd.as (c_WS_blow j0 pa ta oa fr to0 lit pl tl g1 p1 p4 p3 a2 a5 (by omega) (by omega) k0 q1 h1 h3) (by rw [p2, q2])) (q_LW_80 C0.2.2.2.2.1 rfl rfl ⟨Nat.le_of_ble_eq_true rfl, Nat.le_of_ble_eq_true rfl⟩) (ci := 0) (q0 := 0) rfl rfl rfl hB.1 hl.1 rfl rfl (Nat.le_of_ble_eq_true rfl) d_law_630 ⟨(show cells ≤ 600000 by omega), (show slots ≤ 7302250 by omega)⟩ ?_
      refine W.eq (g2 := F0 m 633 ls [.int (blw kd pl tl k0)]) rfl ?_
      refine lv_aload_n C0.1 C0.2.1 d_law_633 rfl (lv_at hl 2 rfl) ?_
      refine lv_aload_n C0.1 C0.2.1 d_law_634 rfl (lv_at hl 0 rfl) ?_
      refine lv_iload_n C0.1 C0.2.1 d_law_635 rfl (lv_at hl 3 rfl) ?_
      refine lv_iconst (v := nI 1) C0.1 C0.2.1 d_law_636 (by decide) ?_
      refine lv_iadd C0.1 C0.2.1 d_law_637 ?_
      refine ti (show (nI (5 * i)) + (nI 1) = nI (5 * i + 1) from nI_add _ _) ?_
      refine sld C0 hX hbl hbA hB (show 5 * i + 1 < Ls by omega) (by omega) d_law_638 ?_
      refine lv_aload_n C0.1 C0.2.1 d_law_639 rfl (lv_at hl 0 rfl) ?_
      refine lv_iload_n C0.1 C0.2.1 d_law_640 rfl (lv_at hl 3 rfl) ?_
      refine lv_iconst (v := nI 2) C0.1 C0.2.1 d_law_641 (by decide) ?_
      refine lv_iadd C0.1 C0.2.1 d_law_642 ?_
      refine ti (show (nI (5 * i)) + (nI 2) = nI (5 * i + 2) from nI_add _ _) ?_
      refine sld C0 hX hbl hbA hB (show 5 * i + 2 < Ls by omega) (by omega) d_law_643 ?_
      have hM : wB g classes A s.heap (mW bb t n kd em br ii oo np ea eb li rn wp wl wf wt L.length ct2 sT2 sP2 sa sb ((wW a t n kd em br ii oo np ea eb li rn (waL L) L.length sT sP ak ap af tt ac ct rp rt ([]) ([])) ++ wy_W t L)) _ _ := wB.rot (a := (wW a t n kd em br ii oo np ea eb li rn (waL L) L.length sT sP ak ap af tt ac ct rp rt ([]) ([]))) (b := (mW bb t n kd em br ii oo np ea eb li rn wp wl wf wt L.length ct2 sT2 sP2 sa sb ([]))) (y := wy_W t L) hB
      refine cR (As := [.int (xs (5 * i + 1)), .int (xs (5 * i + 2))]) (rest := [.int (blw kd pl tl k0)]) C0 (Rd.as (c_MO_blow j0 pl tl (by omega) b1 b2 b3 a1 a2 a5 a3 a6 h7 h1 h2 g1 p1 _ h3 a4) (by rw [p2])) (q_LW_83 C0.2.2.2.2.1 rfl rfl ⟨Nat.le_of_ble_eq_true rfl, Nat.le_of_ble_eq_true rfl⟩) (ci := 5) (q0 := 0) rfl rfl rfl hM.1 hl.1 rfl rfl (Nat.le_of_ble_eq_true rfl) d_law_644 ⟨(show cells ≤ 600000 by omega), (show slots ≤ 7302250 by omega)⟩ ?_
      refine W.eq (g2 := F0 m 647 ls [.int (blwR kd pl tl (xs (5 * i + 2))), .int (blw kd pl tl k0)]) rfl ?_
      refine lv_icmp_eq (tgt := 652) C0.1 C0.2.1 d_law_647 (by decide) (fun _ => ?_) (fun c_647 => ?_)
      · skip
        exact W.widen (by omega) (by omega) (K _ _ _ _ _ _ _ _ _ _ _ _ _ _ _ _ _ _ _ _ _ _ _ _ _ _ _ _ _ _ _ (hI) _ _ hB)
      · exact absurd (by rw [q2]; exact (blwR_j q1 a3).symm) c_647
    · have hq := Bool.eq_false_iff.mpr hq
      refine lv_aload_n C0.1 C0.2.1 d_law_619 rfl (lv_at hl 1 rfl) ?_
      refine lv_aload_n C0.1 C0.2.1 d_law_620 rfl (lv_at hl 0 rfl) ?_
      refine lv_iload_n C0.1 C0.2.1 d_law_621 rfl (lv_at hl 3 rfl) ?_
      refine lv_iconst (v := nI 1) C0.1 C0.2.1 d_law_622 (by decide) ?_
      refine lv_iadd C0.1 C0.2.1 d_law_623 ?_
      refine ti (show (nI (5 * i)) + (nI 1) = nI (5 * i + 1) from nI_add _ _) ?_
      refine sld C0 hX hbl hbA hB (show 5 * i + 1 < Ls by omega) (by omega) d_law_624 ?_
      refine lv_aload_n C0.1 C0.2.1 d_law_625 rfl (lv_at hl 0 rfl) ?_
      refine lv_iload_n C0.1 C0.2.1 d_law_626 rfl (lv_at hl 3 rfl) ?_
      refine lv_iconst (v := nI 2) C0.1 C0.2.1 d_law_627 (by decide) ?_
      refine lv_iadd C0.1 C0.2.1 d_law_628 ?_
      refine ti (show (nI (5 * i)) + (nI 2) = nI (5 * i + 2) from nI_add _ _) ?_
      refine sld C0 hX hbl hbA hB (show 5 * i + 2 < Ls by omega) (by omega) d_law_629 ?_
      refine cR (As := [.int (xs (5 * i + 1)), .int (xs (5 * i + 2))]) (rest := []) C0 (Rd.as (c_WS_blow_out j0 pa ta oa fr to0 lit pl tl g1 p1 p4 p3 (by omega) (by omega) _ a4 hq) (by rw [p2])) (q_LW_80 C0.2.2.2.2.1 rfl rfl ⟨Nat.le_of_ble_eq_true rfl, Nat.le_of_ble_eq_true rfl⟩) (ci := 0) (q0 := 0) rfl rfl rfl hB.1 hl.1 rfl rfl (Nat.le_of_ble_eq_true rfl) d_law_630 ⟨(show cells ≤ 600000 by omega), (show slots ≤ 7302250 by omega)⟩ ?_
      refine W.eq (g2 := F0 m 633 ls [.int (-1)]) rfl ?_
      refine lv_aload_n C0.1 C0.2.1 d_law_633 rfl (lv_at hl 2 rfl) ?_
      refine lv_aload_n C0.1 C0.2.1 d_law_634 rfl (lv_at hl 0 rfl) ?_
      refine lv_iload_n C0.1 C0.2.1 d_law_635 rfl (lv_at hl 3 rfl) ?_
      refine lv_iconst (v := nI 1) C0.1 C0.2.1 d_law_636 (by decide) ?_
      refine lv_iadd C0.1 C0.2.1 d_law_637 ?_
      refine ti (show (nI (5 * i)) + (nI 1) = nI (5 * i + 1) from nI_add _ _) ?_
      refine sld C0 hX hbl hbA hB (show 5 * i + 1 < Ls by omega) (by omega) d_law_638 ?_
      refine lv_aload_n C0.1 C0.2.1 d_law_639 rfl (lv_at hl 0 rfl) ?_
      refine lv_iload_n C0.1 C0.2.1 d_law_640 rfl (lv_at hl 3 rfl) ?_
      refine lv_iconst (v := nI 2) C0.1 C0.2.1 d_law_641 (by decide) ?_
      refine lv_iadd C0.1 C0.2.1 d_law_642 ?_
      refine ti (show (nI (5 * i)) + (nI 2) = nI (5 * i + 2) from nI_add _ _) ?_
      refine sld C0 hX hbl hbA hB (show 5 * i + 2 < Ls by omega) (by omega) d_law_643 ?_
      have hM : wB g classes A s.heap (mW bb t n kd em br ii oo np ea eb li rn wp wl wf wt L.length ct2 sT2 sP2 sa sb ((wW a t n kd em br ii oo np ea eb li rn (waL L) L.length sT sP ak ap af tt ac ct rp rt ([]) ([])) ++ wy_W t L)) _ _ := wB.rot (a := (wW a t n kd em br ii oo np ea eb li rn (waL L) L.length sT sP ak ap af tt ac ct rp rt ([]) ([]))) (b := (mW bb t n kd em br ii oo np ea eb li rn wp wl wf wt L.length ct2 sT2 sP2 sa sb ([]))) (y := wy_W t L) hB
      refine cR (As := [.int (xs (5 * i + 1)), .int (xs (5 * i + 2))]) (rest := [.int (-1)]) C0 (Rd.as (c_MO_blow j0 pl tl (by omega) b1 b2 b3 a1 a2 a5 a3 a6 h7 h1 h2 g1 p1 _ h3 a4) (by rw [p2])) (q_LW_83 C0.2.2.2.2.1 rfl rfl ⟨Nat.le_of_ble_eq_true rfl, Nat.le_of_ble_eq_true rfl⟩) (ci := 5) (q0 := 0) rfl rfl rfl hM.1 hl.1 rfl rfl (Nat.le_of_ble_eq_true rfl) d_law_644 ⟨(show cells ≤ 600000 by omega), (show slots ≤ 7302250 by omega)⟩ ?_
      refine W.eq (g2 := F0 m 647 ls [.int (blwR kd pl tl (xs (5 * i + 2))), .int (-1)]) rfl ?_
      refine lv_icmp_eq (tgt := 652) C0.1 C0.2.1 d_law_647 (by decide) (fun _ => ?_) (fun c_647 => ?_)
      · skip
        exact W.widen (by omega) (by omega) (K _ _ _ _ _ _ _ _ _ _ _ _ _ _ _ _ _ _ _ _ _ _ _ _ _ _ _ _ _ _ _ (hI) _ _ hB)
      · exact absurd (by unfold blwR; rw [hq]; rfl) c_647
  · have hr := Bool.eq_false_iff.mpr hr
    refine lv_aload_n C0.1 C0.2.1 d_law_619 rfl (lv_at hl 1 rfl) ?_
    refine lv_aload_n C0.1 C0.2.1 d_law_620 rfl (lv_at hl 0 rfl) ?_
    refine lv_iload_n C0.1 C0.2.1 d_law_621 rfl (lv_at hl 3 rfl) ?_
    refine lv_iconst (v := nI 1) C0.1 C0.2.1 d_law_622 (by decide) ?_
    refine lv_iadd C0.1 C0.2.1 d_law_623 ?_
    refine ti (show (nI (5 * i)) + (nI 1) = nI (5 * i + 1) from nI_add _ _) ?_
    refine sld C0 hX hbl hbA hB (show 5 * i + 1 < Ls by omega) (by omega) d_law_624 ?_
    refine lv_aload_n C0.1 C0.2.1 d_law_625 rfl (lv_at hl 0 rfl) ?_
    refine lv_iload_n C0.1 C0.2.1 d_law_626 rfl (lv_at hl 3 rfl) ?_
    refine lv_iconst (v := nI 2) C0.1 C0.2.1 d_law_627 (by decide) ?_
    refine lv_iadd C0.1 C0.2.1 d_law_628 ?_
    refine ti (show (nI (5 * i)) + (nI 2) = nI (5 * i + 2) from nI_add _ _) ?_
    refine sld C0 hX hbl hbA hB (show 5 * i + 2 < Ls by omega) (by omega) d_law_629 ?_
    refine cR (As := [.int (xs (5 * i + 1)), .int (xs (5 * i + 2))]) (rest := []) C0 (c_WS_blow_no _ g1 hr _) (q_LW_80 C0.2.2.2.2.1 rfl rfl ⟨Nat.le_of_ble_eq_true rfl, Nat.le_of_ble_eq_true rfl⟩) (ci := 0) (q0 := 0) rfl rfl rfl hB.1 hl.1 rfl rfl (Nat.le_of_ble_eq_true rfl) d_law_630 ⟨(show cells ≤ 600000 by omega), (show slots ≤ 7302250 by omega)⟩ ?_
    refine W.eq (g2 := F0 m 633 ls [.int (-2)]) rfl ?_
    refine lv_aload_n C0.1 C0.2.1 d_law_633 rfl (lv_at hl 2 rfl) ?_
    refine lv_aload_n C0.1 C0.2.1 d_law_634 rfl (lv_at hl 0 rfl) ?_
    refine lv_iload_n C0.1 C0.2.1 d_law_635 rfl (lv_at hl 3 rfl) ?_
    refine lv_iconst (v := nI 1) C0.1 C0.2.1 d_law_636 (by decide) ?_
    refine lv_iadd C0.1 C0.2.1 d_law_637 ?_
    refine ti (show (nI (5 * i)) + (nI 1) = nI (5 * i + 1) from nI_add _ _) ?_
    refine sld C0 hX hbl hbA hB (show 5 * i + 1 < Ls by omega) (by omega) d_law_638 ?_
    refine lv_aload_n C0.1 C0.2.1 d_law_639 rfl (lv_at hl 0 rfl) ?_
    refine lv_iload_n C0.1 C0.2.1 d_law_640 rfl (lv_at hl 3 rfl) ?_
    refine lv_iconst (v := nI 2) C0.1 C0.2.1 d_law_641 (by decide) ?_
    refine lv_iadd C0.1 C0.2.1 d_law_642 ?_
    refine ti (show (nI (5 * i)) + (nI 2) = nI (5 * i + 2) from nI_add _ _) ?_
    refine sld C0 hX hbl hbA hB (show 5 * i + 2 < Ls by omega) (by omega) d_law_643 ?_
    have hM : wB g classes A s.heap (mW bb t n kd em br ii oo np ea eb li rn wp wl wf wt L.length ct2 sT2 sP2 sa sb ((wW a t n kd em br ii oo np ea eb li rn (waL L) L.length sT sP ak ap af tt ac ct rp rt ([]) ([])) ++ wy_W t L)) _ _ := wB.rot (a := (wW a t n kd em br ii oo np ea eb li rn (waL L) L.length sT sP ak ap af tt ac ct rp rt ([]) ([]))) (b := (mW bb t n kd em br ii oo np ea eb li rn wp wl wf wt L.length ct2 sT2 sP2 sa sb ([]))) (y := wy_W t L) hB
    refine cR (As := [.int (xs (5 * i + 1)), .int (xs (5 * i + 2))]) (rest := [.int (-2)]) C0 (c_MO_blow_no _ g1 hr _) (q_LW_83 C0.2.2.2.2.1 rfl rfl ⟨Nat.le_of_ble_eq_true rfl, Nat.le_of_ble_eq_true rfl⟩) (ci := 5) (q0 := 0) rfl rfl rfl hM.1 hl.1 rfl rfl (Nat.le_of_ble_eq_true rfl) d_law_644 ⟨(show cells ≤ 600000 by omega), (show slots ≤ 7302250 by omega)⟩ ?_
    refine W.eq (g2 := F0 m 647 ls [.int (-2), .int (-2)]) rfl ?_
    refine lv_icmp_eq (tgt := 652) C0.1 C0.2.1 d_law_647 (by decide) (fun _ => ?_) (fun c_647 => ?_)
    · skip
      exact W.widen (by omega) (by omega) (K _ _ _ _ _ _ _ _ _ _ _ _ _ _ _ _ _ _ _ _ _ _ _ _ _ _ _ _ _ _ _ (hI) _ _ hB)
    · exact absurd (rfl) c_647

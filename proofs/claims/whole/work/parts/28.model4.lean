/-! the reference's walk: the first pipes by which a cheapest way leaves a thing -/
section RW
variable {n : Nat} {kd : Nat → Nat} {ii oo : Nat → Int32} {np : Nat} {ea eb li : Nat → Nat} {sT sP : Nat → Bool} {u0 e0 : Nat} {c : Nat → Nat}
def rTi (kd : Nat → Nat) (ii oo : Nat → Int32) (np : Nat) (ea eb li : Nat → Nat) (sT sP : Nat → Bool) (e0 : Nat) (c : Nat → Nat) (p v o : Nat) : Prop := p < np ∧ ((v = ea p ∧ o = eb p) ∨ (v = eb p ∧ o = ea p)) ∧ (kd o ≠ 0 ∨ o = e0) ∧ goB kd ii oo sT sP p v o = true ∧ c o ≠ far2 ∧ c v = c o + wtR kd li p v
def rFw (kd : Nat → Nat) (ii oo : Nat → Int32) (np : Nat) (ea eb li : Nat → Nat) (sT sP : Nat → Bool) (e0 : Nat) (c : Nat → Nat) : Nat → List (Nat × Nat) → Prop
  | v, [] => v = e0
  | v, x :: r => v ≠ e0 ∧ rTi kd ii oo np ea eb li sT sP e0 c x.1 v x.2 ∧ (∀ p, p < x.1 → ∀ o, ¬ rTi kd ii oo np ea eb li sT sP e0 c p v o) ∧ rFw kd ii oo np ea eb li sT sP e0 c x.2 r
theorem rE_lt {p a b : Nat} (hea : ∀ j, j < np → ea j < n) (heb : ∀ j, j < np → eb j < n) (h : rE kd ii oo np ea eb sT sP u0 e0 p a b) : a < n ∧ b < n := by
  obtain ⟨h1, h2, -⟩ := h
  have b1 := hea p h1
  have b2 := heb p h1
  rcases h2 with ⟨q1, q2⟩ | ⟨q1, q2⟩ <;> omega
theorem rMin (hea : ∀ j, j < np → ea j < n) (heb : ∀ j, j < np → eb j < n) (h : RI n kd ii oo np ea eb li sT sP u0 e0 c) (hf : rFix kd ii oo np ea eb li sT sP u0 e0 c) : ∀ (w : List (Nat × Nat)) (v : Nat), v < n → gw (rE kd ii oo np ea eb sT sP u0 e0) e0 v w → c v ≤ gc (fun p a _ => wtR kd li p a) v w
  | [], v, _, hw => by
    have e : v = e0 := hw
    rw [e, h.2.1]
    exact Nat.zero_le _
  | x :: r, v, hv, hw => by
    obtain ⟨h1, h2⟩ := hw
    have hb := (rE_lt hea heb h1).2
    have ih := rMin hea heb h hf r x.2 hb h2
    show c v ≤ wtR kd li x.1 v + gc _ x.2 r
    have hc := h.1 v hv
    by_cases hn : c x.2 = far2
    · omega
    · have hno : noI kd ii oo li sT sP u0 e0 x.1 v x.2 c := by
        rcases h1.2.1 with ⟨q1, q2⟩ | ⟨q1, q2⟩
        · rw [q1, q2]; exact (hf x.1 h1.1).1
        · rw [q1, q2]; exact (hf x.1 h1.1).2
      have : ¬ c x.2 + wtR kd li x.1 v < c v := fun q => hno ⟨h1.2.2, hn, q⟩
      omega
theorem enB_of {p a b : Nat} (h : enB kd ii oo sT sP u0 e0 p a b = true) : (kd a ≠ 0 ∨ a = u0) ∧ (kd b ≠ 0 ∨ b = e0) ∧ a ≠ e0 ∧ goB kd ii oo sT sP p a b = true := by
  unfold enB inB at h
  simp only [Bool.and_eq_true, Bool.or_eq_true, decide_eq_true_eq] at h
  exact ⟨h.1.1, h.1.2.1, h.1.2.2, h.2⟩
theorem enB_mk {p a b : Nat} (h1 : kd a ≠ 0 ∨ a = u0) (h2 : kd b ≠ 0 ∨ b = e0) (h3 : a ≠ e0) (h4 : goB kd ii oo sT sP p a b = true) : enB kd ii oo sT sP u0 e0 p a b = true := by
  unfold enB inB
  simp only [Bool.and_eq_true, Bool.or_eq_true, decide_eq_true_eq]
  exact ⟨⟨h1, h2, h3⟩, h4⟩
theorem rTi_ex (hea : ∀ j, j < np → ea j < n) (heb : ∀ j, j < np → eb j < n) (h : RI n kd ii oo np ea eb li sT sP u0 e0 c) (hf : rFix kd ii oo np ea eb li sT sP u0 e0 c) {v : Nat} (hv : v < n) (hne : v ≠ e0) (hc : c v ≠ far2) : ∃ p o, rTi kd ii oo np ea eb li sT sP e0 c p v o := by
  obtain ⟨w, h1, h2⟩ := h.2.2 v hv hc
  cases w with
  | nil => exact absurd h1 hne
  | cons x r =>
    have hb := (rE_lt hea heb h1.1).2
    have h3 := rMin hea heb h hf r x.2 hb h1.2
    have h4 : wtR kd li x.1 v + gc (fun p a _ => wtR kd li p a) x.2 r = c v := h2
    have h5 := h.1 v hv
    have h6 : c x.2 ≠ far2 := by omega
    obtain ⟨g1, g2, g3⟩ := h1.1
    have hno : noI kd ii oo li sT sP u0 e0 x.1 v x.2 c := by
      rcases g2 with ⟨q1, q2⟩ | ⟨q1, q2⟩
      · rw [q1, q2]; exact (hf x.1 g1).1
      · rw [q1, q2]; exact (hf x.1 g1).2
    have h7 : ¬ c x.2 + wtR kd li x.1 v < c v := fun q => hno ⟨g3, h6, q⟩
    obtain ⟨e1, e2, e3, e4⟩ := enB_of g3
    exact ⟨x.1, x.2, g1, g2, e2, e4, h6, by omega⟩
theorem rTi_lt {p v o : Nat} (hea : ∀ j, j < np → ea j < n) (heb : ∀ j, j < np → eb j < n) (h : rTi kd ii oo np ea eb li sT sP e0 c p v o) : o < n := by
  have b1 := hea p h.1
  have b2 := heb p h.1
  rcases h.2.1 with ⟨q1, q2⟩ | ⟨q1, q2⟩ <;> omega
theorem rTi_dec {p v o : Nat} (hli : ∀ j, j < np → 1 ≤ li j ∧ li j ≤ 1000000000) (h : rTi kd ii oo np ea eb li sT sP e0 c p v o) : c o < c v := by
  have := hli p h.1
  have := h.2.2.2.2.2
  unfold wtR at this
  omega
theorem rFw_ex (hea : ∀ j, j < np → ea j < n) (heb : ∀ j, j < np → eb j < n) (hli : ∀ j, j < np → 1 ≤ li j ∧ li j ≤ 1000000000) (h : RI n kd ii oo np ea eb li sT sP u0 e0 c) (hf : rFix kd ii oo np ea eb li sT sP u0 e0 c) : ∀ (m v : Nat), v < n → c v < m → c v ≠ far2 → ∃ w, rFw kd ii oo np ea eb li sT sP e0 c v w
  | 0, v, _, hm, _ => absurd hm (Nat.not_lt_zero _)
  | m + 1, v, hv, hm, hc => by
    by_cases he : v = e0
    · exact ⟨[], he⟩
    · obtain ⟨p0, o0, g⟩ := rTi_ex hea heb h hf hv he hc
      obtain ⟨p, ⟨o, g1⟩, g2⟩ := pk_least (fun p => ∃ o, rTi kd ii oo np ea eb li sT sP e0 c p v o) ⟨p0, o0, g⟩
      have g3 := rTi_dec hli g1
      obtain ⟨w, g4⟩ := rFw_ex hea heb hli h hf m o (rTi_lt hea heb g1) (by omega) g1.2.2.2.2.1
      exact ⟨(p, o) :: w, he, g1, fun p' hp' o' q => g2 p' hp' ⟨o', q⟩, g4⟩
def rPl (w : List (Nat × Nat)) : List Nat := w.map (fun x => x.1)
def rNd (v : Nat) (w : List (Nat × Nat)) : List Nat := v :: w.map (fun x => x.2)
theorem rFw_at : ∀ (w : List (Nat × Nat)) (v j : Nat), rFw kd ii oo np ea eb li sT sP e0 c v w → j < w.length → (rNd v w).getD j 0 ≠ e0 ∧ rTi kd ii oo np ea eb li sT sP e0 c ((rPl w).getD j 0) ((rNd v w).getD j 0) ((rNd v w).getD (j + 1) 0) ∧ ∀ p, p < (rPl w).getD j 0 → ∀ o, ¬ rTi kd ii oo np ea eb li sT sP e0 c p ((rNd v w).getD j 0) o
  | [], _, _, _, hj => absurd hj (Nat.not_lt_zero _)
  | x :: r, v, 0, h, _ => ⟨h.1, h.2.1, h.2.2.1⟩
  | x :: r, v, j + 1, h, hj => rFw_at r x.2 j h.2.2.2 (by simpa using hj)
theorem rFw_end : ∀ (w : List (Nat × Nat)) (v : Nat), rFw kd ii oo np ea eb li sT sP e0 c v w → (rNd v w).getD w.length 0 = e0
  | [], _, h => h
  | x :: r, _, h => rFw_end r x.2 h.2.2.2
theorem rFw_nd (hea : ∀ j, j < np → ea j < n) (heb : ∀ j, j < np → eb j < n) (hli : ∀ j, j < np → 1 ≤ li j ∧ li j ≤ 1000000000) : ∀ (w : List (Nat × Nat)) (v : Nat), v < n → rFw kd ii oo np ea eb li sT sP e0 c v w → (rNd v w).Nodup ∧ (∀ x ∈ rNd v w, x < n ∧ c x ≤ c v)
  | [], v, hv, _ => by
    refine ⟨by simp [rNd], fun x hx => ?_⟩
    have e : x = v := by simpa [rNd] using hx
    rw [e]
    exact ⟨hv, Nat.le_refl _⟩
  | y :: r, v, hv, h => by
    obtain ⟨g1, g2⟩ := rFw_nd hea heb hli r y.2 (rTi_lt hea heb h.2.1) h.2.2.2
    have g3 := rTi_dec hli h.2.1
    show (v :: rNd y.2 r).Nodup ∧ ∀ x ∈ v :: rNd y.2 r, x < n ∧ c x ≤ c v
    refine ⟨List.nodup_cons.mpr ⟨fun q => ?_, g1⟩, fun x hx => ?_⟩
    · have := (g2 v q).2
      omega
    · rcases List.mem_cons.mp hx with e | e
      · rw [e]; exact ⟨hv, Nat.le_refl _⟩
      · have := g2 x e
        exact ⟨this.1, by omega⟩
theorem rFw_len (hea : ∀ j, j < np → ea j < n) (heb : ∀ j, j < np → eb j < n) (hli : ∀ j, j < np → 1 ≤ li j ∧ li j ≤ 1000000000) {w : List (Nat × Nat)} {v : Nat} (hv : v < n) (h : rFw kd ii oo np ea eb li sT sP e0 c v w) : w.length < n := by
  obtain ⟨g1, g2⟩ := rFw_nd hea heb hli w v hv h
  have := bf_pigeon n _ g1 (fun x hx => (g2 x hx).1)
  simp [rNd] at this
  omega
end RW
/-- the reference's walk found w -/
def mFw (n : Nat) (kd : Nat → Nat) (ii oo : Nat → Int32) (np : Nat) (ea eb li : Nat → Nat) (sT sP : Nat → Bool) (u0 e0 : Nat) (w : List (Nat × Nat)) : Prop := (sT u0 || sT e0) = false ∧ w.length < 48 ∧ ∃ c, RI n kd ii oo np ea eb li sT sP u0 e0 c ∧ rFix kd ii oo np ea eb li sT sP u0 e0 c ∧ c u0 ≠ far2 ∧ rFw kd ii oo np ea eb li sT sP e0 c u0 w
section WX
variable {p : Program} {l : Launch} {e : Env} {R : Room} {s : State} {m : MethodId} {args : Array Value} {below : List Frame} {meth : Method} {c : Code} {H : Heap} {locs : List Loc} {cells slots : Nat} {Q : State → Prop} {ls : Array Slot}
theorem wcutX {σ : Type} {g1 : JFrame} {pc' : Nat} {st' : σ → List Value} {inv : σ → Prop} (tail : ∀ x : σ, inv x → W p l e R s m args below meth c H locs cells slots Q (F0 m pc' ls (st' x))) (k : (∀ x : σ, inv x → W p l e R s m args below meth c H locs cells slots Q (F0 m pc' ls (st' x))) → W p l e R s m args below meth c H locs cells slots Q g1) : W p l e R s m args below meth c H locs cells slots Q g1 := k tail
end WX
theorem ix_lt {a k : Nat} (ha : a < 64) (hk : k < 48) : a * 48 + k < 3072 := by omega

section MODEL4
variable {l : Launch} {g : va_G} {t : Nat → ClassId} {b : Nat → Nat} {n : Nat} {kd : Nat → Nat} {em : Nat → Bool} {br : Nat → Bool} {ii : Nat → Int32} {oo : Nat → Int32} {np : Nat} {ea : Nat → Nat} {eb : Nat → Nat} {li : Nat → Nat} {rn : Nat → Bool} {wp : Nat → Nat} {wl : Nat → Nat} {wf : Nat → Nat} {wt : Nat → Nat} {wn : Nat} {ct : Nat → Nat} {sT : Nat → Bool} {sP : Nat → Bool} {sa : Nat → Nat} {sb : Nat → Nat} {rest : va_W}
theorem oth_u {ea eb : Nat → Nat} {z v o o2 : Nat} (hne : ea z ≠ eb z) (h : (v = ea z ∧ o2 = eb z) ∨ (v = eb z ∧ o2 = ea z)) (h2 : (v = ea z ∧ o = eb z) ∨ (v = eb z ∧ o = ea z)) : o2 = o := by
  rcases h with ⟨a, b⟩ | ⟨a, b⟩ <;> rcases h2 with ⟨c, d⟩ | ⟨c, d⟩ <;> omega
theorem nd_lt {n : Nat} {kd : Nat → Nat} {ii oo : Nat → Int32} {np : Nat} {ea eb li : Nat → Nat} {sT sP : Nat → Bool} {e0 v : Nat} {c : Nat → Nat} {w : List (Nat × Nat)} (hea : ∀ j, j < np → ea j < n) (heb : ∀ j, j < np → eb j < n) (hli : ∀ j, j < np → 1 ≤ li j ∧ li j ≤ 1000000000) (hv : v < n) (h : rFw kd ii oo np ea eb li sT sP e0 c v w) (j : Nat) : (rNd v w).getD j 0 < n := by
  by_cases hj : j < (rNd v w).length
  · exact ((rFw_nd hea heb hli w v hv h).2 _ (gD_mem hj)).1
  · have : (rNd v w).getD j 0 = 0 := by simp [List.getD, List.getElem?_eq_none (Nat.le_of_not_lt hj)]
    omega
set_option maxHeartbeats 4000000 in
set_option maxRecDepth 100000 in
theorem c_MO_walk (u0 e0 a0 : Nat) (hu0 : u0 < n) (he0 : e0 < n) (ha0 : a0 < 64) (hne : ∀ j, j < np → ea j ≠ eb j) (hn : n ≤ 48) (hnp : np ≤ 96) (hk : ∀ j, kd j < 3) (hea : ∀ j, j < np → ea j < n) (heb : ∀ j, j < np → eb j < n) (hli : ∀ j, j < np → 1 ≤ li j ∧ li j ≤ 1000000000) : Mt l y_MO_walk w_MO_walk ({ frames := 3, cells := 0, slots := 0, locals := 75 }) g classes (tyL t) [.ref (b 0), .int (nI u0), .int (nI e0), .int (nI a0)] (mW b t n kd em br ii oo np ea eb li rn wp wl wf wt wn ct sT sP sa sb rest) (S := ((Nat → Nat) × (Nat → Nat) × (Nat → Nat) × (Nat → Nat) × (Nat → Nat)) × Option (List (Nat × Nat))) (fun v z => v = some (.int (bI z.2.isSome)) ∧ ((∃ w, z.2 = some w ∧ mFw n kd ii oo np ea eb li sT sP u0 e0 w ∧ (∀ j, j < w.length → z.1.2.1 (a0 * 48 + j) = (rPl w).getD j 0) ∧ (∀ x, (x < a0 * 48 ∨ a0 * 48 + 48 ≤ x) → z.1.2.1 x = wp x) ∧ z.1.2.2.1 = va_up wl a0 w.length ∧ z.1.2.2.2.1 = va_up wf a0 u0 ∧ z.1.2.2.2.2 = va_up wt a0 e0) ∨ (z.2 = none ∧ mNo n kd ii oo np ea eb li sT sP u0 e0 ∧ z.1.2 = (wp, wl, wf, wt)))) (fun z => (mW b t n kd em br ii oo np ea eb li rn z.1.2.1 z.1.2.2.1 z.1.2.2.2.1 z.1.2.2.2.2 wn z.1.1 sT sP sa sb rest)) 0 0 := by
  refine Mt.of (cc := b_MO_walk) (maxL := 10) (ret := (some .boolean)) (own := R_MO) (by decide) rfl rfl (Nat.le_of_ble_eq_true rfl) ?_
  intro p e s m args below meth c C0 hr hlk hin A hA hB ls hl
  have hl : lv_has ls 10 [(0, .ref (b 0)), (1, .int (nI u0)), (2, .int (nI e0)), (3, .int (nI a0))] := hl
  refine lv_aload_n C0.1 C0.2.1 d_MO_walk_0 rfl (lv_at hl 0 rfl) ?_
  refine gf_MO_54 C0 hB.1 0 rfl rfl d_MO_walk_1 ?_
  refine lv_iload_n C0.1 C0.2.1 d_MO_walk_4 rfl (lv_at hl 1 rfl) ?_
  refine ald_z C0 hB.1 15 1 rfl rfl (by omega) (by decide) d_MO_walk_5 ?_
  refine lv_if_ne (tgt := 18) C0.1 C0.2.1 d_MO_walk_6 (by decide) (fun c_6 => ?_) (fun c_6 => ?_)
  · refine lv_iconst (v := nI 0) C0.1 C0.2.1 d_MO_walk_18 (by decide) ?_
    exact eM_z C0 hr hlk (b := false) ((ct, wp, wl, wf, wt), none) rfl hB ⟨rfl, Or.inr ⟨rfl, Or.inl (by rw [bI_n0.mp c_6]; rfl), rfl⟩⟩ (Nat.le_refl _) (Nat.le_refl _) d_MO_walk_19
  · refine lv_aload_n C0.1 C0.2.1 d_MO_walk_9 rfl (lv_at hl 0 rfl) ?_
    refine gf_MO_54 C0 hB.1 0 rfl rfl d_MO_walk_10 ?_
    refine lv_iload_n C0.1 C0.2.1 d_MO_walk_13 rfl (lv_at hl 2 rfl) ?_
    refine ald_z C0 hB.1 15 1 rfl rfl (by omega) (by decide) d_MO_walk_14 ?_
    refine lv_if_eq (tgt := 20) C0.1 C0.2.1 d_MO_walk_15 (by decide) (fun c_15 => ?_) (fun c_15 => ?_)
    · have hns : (sT u0 || sT e0) = false := by rw [bI_0.mp c_6, bI_0.mp c_15]; rfl
      refine lv_aload_n C0.1 C0.2.1 d_MO_walk_20 rfl (lv_at hl 0 rfl) ?_
      refine lv_iload_n C0.1 C0.2.1 d_MO_walk_21 rfl (lv_at hl 1 rfl) ?_
      refine lv_iload_n C0.1 C0.2.1 d_MO_walk_22 rfl (lv_at hl 2 rfl) ?_
      refine cM (As := [.int (nI u0), .int (nI e0)]) (rest := []) C0 (c_MO_reckon u0 e0 (by omega) (by omega) hn hnp hk hea heb hli) (q_MO_102 C0.2.2.2.2.1 rfl rfl ⟨Nat.le_of_ble_eq_true rfl, Nat.le_of_ble_eq_true rfl⟩) (ci := 5) (q0 := 0) rfl rfl rfl hB hl.1 rfl rfl (Nat.le_of_ble_eq_true rfl) d_MO_walk_23 ⟨Nat.zero_le _, Nat.zero_le _⟩ (fun v_23 d1 H locs hp_23 hB => ?_)
      obtain ⟨rfl, x1, x2⟩ := hp_23
      have hB : wB g classes A s.heap (mW b t n kd em br ii oo np ea eb li rn wp wl wf wt wn d1 sT sP sa sb rest) H locs := hB
      refine W.eq (g2 := F0 m 26 ls []) rfl ?_
      refine lv_aload_n C0.1 C0.2.1 d_MO_walk_26 rfl (lv_at hl 0 rfl) ?_
      refine gf_MO_51 C0 hB.1 0 rfl rfl d_MO_walk_27 ?_
      refine lv_iload_n C0.1 C0.2.1 d_MO_walk_30 rfl (lv_at hl 1 rfl) ?_
      refine ald_l C0 hB.1 14 2 rfl rfl (by omega) (by decide) d_MO_walk_31 ?_
      refine lv_ldc2 C0.1 C0.2.1 C0.2.2.2.1 (C0.2.2.2.2.1 _ k_MO_91) d_MO_walk_32 ?_
      refine tl (show (1152921504606846976 : Int64) = lN 1152921504606846976 from rfl) ?_
      refine W.lcmp C0.1 C0.2.1 d_MO_walk_35 ?_
      refine lv_if_ne (tgt := 41) C0.1 C0.2.1 d_MO_walk_36 (by decide) (fun c_36 => ?_) (fun c_36 => ?_)
      · have hfar : d1 u0 ≠ far2 := fun q => c_36 ((lg_cmp_eq _ _).mpr (by rw [q]))
        obtain ⟨w, hw⟩ := rFw_ex hea heb hli x1 x2 (d1 u0 + 1) u0 hu0 (by omega) hfar
        have hlen := rFw_len hea heb hli hu0 hw
        have hnd : ∀ j, (rNd u0 w).getD j 0 < n := fun j => nd_lt hea heb hli hu0 hw j
        refine lv_iload_n C0.1 C0.2.1 d_MO_walk_41 rfl (lv_at hl 1 rfl) ?_
        refine lv_istore (lv' := [(4, .int (nI u0)), (0, .ref (b 0)), (1, .int (nI u0)), (2, .int (nI e0)), (3, .int (nI a0))]) C0.1 C0.2.1 d_MO_walk_42 hl (by decide) rfl (fun ls hl => ?_)
        refine lv_iconst (v := nI 0) C0.1 C0.2.1 d_MO_walk_44 (by decide) ?_
        refine lv_istore (lv' := [(5, .int (nI 0)), (4, .int (nI u0)), (0, .ref (b 0)), (1, .int (nI u0)), (2, .int (nI e0)), (3, .int (nI a0))]) C0.1 C0.2.1 d_MO_walk_45 hl (by decide) rfl (fun ls hl => ?_)
        refine wlM (σ := Nat × (Nat → Nat)) (head := 47) (fun z_ => w.length - z_.1) (fun z_ => z_.1 ≤ w.length ∧ (∀ j, j < z_.1 → z_.2 (a0 * 48 + j) = (rPl w).getD j 0) ∧ ∀ x, (x < a0 * 48 ∨ a0 * 48 + 48 ≤ x) → z_.2 x = wp x) (fun z_ => (mW b t n kd em br ii oo np ea eb li rn z_.2 wl wf wt wn d1 sT sP sa sb rest)) (fun z_ => [(0, .ref (b 0)), (1, .int (nI u0)), (2, .int (nI e0)), (3, .int (nI a0)), (4, .int (nI ((rNd u0 w).getD z_.1 0))), (5, .int (nI z_.1))]) ?_ (0, wp) (show 0 ≤ w.length ∧ (∀ j, j < 0 → wp (a0 * 48 + j) = (rPl w).getD j 0) ∧ ∀ x, (x < a0 * 48 ∨ a0 * 48 + 48 ≤ x) → wp x = wp x from ⟨Nat.zero_le _, fun j h => absurd h (Nat.not_lt_zero _), fun x _ => rfl⟩) hB (lv_sub hl [2, 3, 4, 5, 1, 0] rfl)
        rintro ⟨k, q⟩ hi ih_47 H locs ls hB hl
        have hi : k ≤ w.length ∧ (∀ j, j < k → q (a0 * 48 + j) = (rPl w).getD j 0) ∧ ∀ x, (x < a0 * 48 ∨ a0 * 48 + 48 ≤ x) → q x = wp x := hi
        obtain ⟨hi1, hi2, hi3⟩ := hi
        have hl : lv_has ls 10 [(0, .ref (b 0)), (1, .int (nI u0)), (2, .int (nI e0)), (3, .int (nI a0)), (4, .int (nI ((rNd u0 w).getD k 0))), (5, .int (nI k))] := hl
        have hB : wB g classes A s.heap (mW b t n kd em br ii oo np ea eb li rn q wl wf wt wn d1 sT sP sa sb rest) H locs := hB
        refine lv_iload C0.1 C0.2.1 d_MO_walk_47 (lv_at hl 4 rfl) ?_
        refine lv_iload_n C0.1 C0.2.1 d_MO_walk_49 rfl (lv_at hl 2 rfl) ?_
        refine lv_icmp_eq (tgt := 257) C0.1 C0.2.1 d_MO_walk_50 (by decide) (fun c_50 => ?_) (fun c_50 => ?_)
        · have hkw : k = w.length := by
            rcases Nat.lt_or_ge k w.length with z | z
            · exact absurd ((nI_eq (by have := hnd k; omega) (by omega)).mp c_50) (rFw_at w u0 k hw z).1
            · omega
          refine lv_aload_n C0.1 C0.2.1 d_MO_walk_257 rfl (lv_at hl 0 rfl) ?_
          refine gf_MO_42 C0 hB.1 0 rfl rfl d_MO_walk_258 ?_
          refine lv_iload_n C0.1 C0.2.1 d_MO_walk_261 rfl (lv_at hl 3 rfl) ?_
          refine lv_iload C0.1 C0.2.1 d_MO_walk_262 (lv_at hl 5 rfl) ?_
          refine ast_i (w' := (mW b t n kd em br ii oo np ea eb li rn q (va_up wl a0 k) wf wt wn d1 sT sP sa sb rest)) C0 hB 11 0 rfl rfl (by omega) (by decide) up_nI rfl d_MO_walk_264 (fun H locs hB => ?_)
          refine lv_aload_n C0.1 C0.2.1 d_MO_walk_265 rfl (lv_at hl 0 rfl) ?_
          refine gf_MO_45 C0 hB.1 0 rfl rfl d_MO_walk_266 ?_
          refine lv_iload_n C0.1 C0.2.1 d_MO_walk_269 rfl (lv_at hl 3 rfl) ?_
          refine lv_iload_n C0.1 C0.2.1 d_MO_walk_270 rfl (lv_at hl 1 rfl) ?_
          refine ast_i (w' := (mW b t n kd em br ii oo np ea eb li rn q (va_up wl a0 k) (va_up wf a0 u0) wt wn d1 sT sP sa sb rest)) C0 hB 12 0 rfl rfl (by omega) (by decide) up_nI rfl d_MO_walk_271 (fun H locs hB => ?_)
          refine lv_aload_n C0.1 C0.2.1 d_MO_walk_272 rfl (lv_at hl 0 rfl) ?_
          refine gf_MO_48 C0 hB.1 0 rfl rfl d_MO_walk_273 ?_
          refine lv_iload_n C0.1 C0.2.1 d_MO_walk_276 rfl (lv_at hl 3 rfl) ?_
          refine lv_iload_n C0.1 C0.2.1 d_MO_walk_277 rfl (lv_at hl 2 rfl) ?_
          refine ast_i (w' := (mW b t n kd em br ii oo np ea eb li rn q (va_up wl a0 k) (va_up wf a0 u0) (va_up wt a0 e0) wn d1 sT sP sa sb rest)) C0 hB 13 0 rfl rfl (by omega) (by decide) up_nI rfl d_MO_walk_278 (fun H locs hB => ?_)
          refine lv_iconst (v := nI 1) C0.1 C0.2.1 d_MO_walk_279 (by decide) ?_
          exact eM_z C0 hr hlk (b := true) ((d1, q, va_up wl a0 k, va_up wf a0 u0, va_up wt a0 e0), some w) rfl hB ⟨rfl, Or.inl ⟨w, rfl, ⟨hns, by omega, d1, x1, x2, hfar, hw⟩, by rw [hkw] at hi2; exact hi2, hi3, by rw [hkw], rfl, rfl⟩⟩ (Nat.le_refl _) (Nat.le_refl _) d_MO_walk_280
        · have hk1 : k < w.length := by
            rcases Nat.lt_or_ge k w.length with z | z
            · exact z
            · exact absurd (by rw [show k = w.length by omega, rFw_end w u0 hw]) c_50
          obtain ⟨g1, g2, g3⟩ := rFw_at w u0 k hw hk1
          have hPn := g2.1
          have hkn := hnd k
          have hkn1 := hnd (k + 1)
          refine lv_iconst (v := -1) C0.1 C0.2.1 d_MO_walk_53 (by decide) ?_
          refine lv_istore (lv' := [(6, .int (-1)), (0, .ref (b 0)), (1, .int (nI u0)), (2, .int (nI e0)), (3, .int (nI a0)), (4, .int (nI ((rNd u0 w).getD k 0))), (5, .int (nI k))]) C0.1 C0.2.1 d_MO_walk_54 hl (by decide) rfl (fun ls hl => ?_)
          refine lv_iconst (v := nI 0) C0.1 C0.2.1 d_MO_walk_56 (by decide) ?_
          refine lv_istore (lv' := [(7, .int (nI 0)), (6, .int (-1)), (0, .ref (b 0)), (1, .int (nI u0)), (2, .int (nI e0)), (3, .int (nI a0)), (4, .int (nI ((rNd u0 w).getD k 0))), (5, .int (nI k))]) C0.1 C0.2.1 d_MO_walk_57 hl (by decide) rfl (fun ls hl => ?_)
          refine wlM (σ := Nat × Int32) (head := 59) (fun z_ => 2 * ((rPl w).getD k 0 - z_.1) + (if z_.2 = -1 then 1 else 0)) (fun z_ => z_.1 ≤ (rPl w).getD k 0 ∧ (z_.2 = -1 ∨ (z_.2 = nI ((rNd u0 w).getD (k + 1) 0) ∧ z_.1 = (rPl w).getD k 0))) (fun z_ => (mW b t n kd em br ii oo np ea eb li rn q wl wf wt wn d1 sT sP sa sb rest)) (fun z_ => [(0, .ref (b 0)), (1, .int (nI u0)), (2, .int (nI e0)), (3, .int (nI a0)), (4, .int (nI ((rNd u0 w).getD k 0))), (5, .int (nI k)), (6, .int z_.2), (7, .int (nI z_.1))]) ?_ (0, (-1)) (show 0 ≤ (rPl w).getD k 0 ∧ ((-1) = -1 ∨ ((-1) = nI ((rNd u0 w).getD (k + 1) 0) ∧ 0 = (rPl w).getD k 0)) from ⟨Nat.zero_le _, Or.inl rfl⟩) hB (lv_sub hl [2, 3, 4, 5, 6, 7, 1, 0] rfl)
          rintro ⟨z, nx⟩ hi ih_59 H locs ls hB hl
          have hi : z ≤ (rPl w).getD k 0 ∧ (nx = -1 ∨ (nx = nI ((rNd u0 w).getD (k + 1) 0) ∧ z = (rPl w).getD k 0)) := hi
          obtain ⟨hz1, hz2⟩ := hi
          have hl : lv_has ls 10 [(0, .ref (b 0)), (1, .int (nI u0)), (2, .int (nI e0)), (3, .int (nI a0)), (4, .int (nI ((rNd u0 w).getD k 0))), (5, .int (nI k)), (6, .int nx), (7, .int (nI z))] := hl
          have hB : wB g classes A s.heap (mW b t n kd em br ii oo np ea eb li rn q wl wf wt wn d1 sT sP sa sb rest) H locs := hB
          refine lv_iload C0.1 C0.2.1 d_MO_walk_59 (lv_at hl 6 rfl) ?_
          refine lv_iconst (v := -1) C0.1 C0.2.1 d_MO_walk_61 (by decide) ?_
          refine lv_icmp_ne (tgt := 233) C0.1 C0.2.1 d_MO_walk_62 (by decide) (fun c_62 => ?_) (fun c_62 => ?_)
          · rcases hz2 with hz2 | ⟨hz2, hz3⟩
            · exact absurd hz2 c_62
            subst hz2
            subst hz3
            refine lv_aload_n C0.1 C0.2.1 d_MO_walk_233 rfl (lv_at hl 0 rfl) ?_
            refine gf_MO_39 C0 hB.1 0 rfl rfl d_MO_walk_234 ?_
            refine lv_iload_n C0.1 C0.2.1 d_MO_walk_237 rfl (lv_at hl 3 rfl) ?_
            refine lv_bipush (v := nI 48) C0.1 C0.2.1 d_MO_walk_238 (by decide) ?_
            refine lv_imul C0.1 C0.2.1 d_MO_walk_240 ?_
            refine ti (show (nI a0) * (nI 48) = nI (a0 * 48) from pk_mul _ _) ?_
            refine lv_iload C0.1 C0.2.1 d_MO_walk_241 (lv_at hl 5 rfl) ?_
            refine lv_iadd C0.1 C0.2.1 d_MO_walk_243 ?_
            refine ti (show (nI (a0 * 48)) + (nI k) = nI (a0 * 48 + k) from nI_add _ _) ?_
            refine lv_iload C0.1 C0.2.1 d_MO_walk_244 (lv_at hl 7 rfl) ?_
            refine ast_i (w' := (mW b t n kd em br ii oo np ea eb li rn (va_up q (a0 * 48 + k) ((rPl w).getD k 0)) wl wf wt wn d1 sT sP sa sb rest)) C0 hB 10 0 rfl rfl (by omega) (by decide) up_nI rfl d_MO_walk_246 (fun H locs hB => ?_)
            refine lv_iinc (v := nI (k + 1)) (lv' := [(5, .int (nI (k + 1))), (0, .ref (b 0)), (1, .int (nI u0)), (2, .int (nI e0)), (3, .int (nI a0)), (4, .int (nI ((rNd u0 w).getD k 0))), (6, .int (nI ((rNd u0 w).getD (k + 1) 0))), (7, .int (nI ((rPl w).getD k 0)))]) C0.1 C0.2.1 d_MO_walk_247 hl (k := 5) rfl (inc1 _) (by decide) rfl (fun ls hl => ?_)
            refine lv_iload C0.1 C0.2.1 d_MO_walk_250 (lv_at hl 6 rfl) ?_
            refine lv_istore (lv' := [(4, .int (nI ((rNd u0 w).getD (k + 1) 0))), (5, .int (nI (k + 1))), (0, .ref (b 0)), (1, .int (nI u0)), (2, .int (nI e0)), (3, .int (nI a0)), (6, .int (nI ((rNd u0 w).getD (k + 1) 0))), (7, .int (nI ((rPl w).getD k 0)))]) C0.1 C0.2.1 d_MO_walk_252 hl (by decide) rfl (fun ls hl => ?_)
            refine lv_goto (tgt := 47) C0.1 C0.2.1 d_MO_walk_254 (by decide) ?_
            exact ih_47 ((k + 1), (va_up q (a0 * 48 + k) ((rPl w).getD k 0))) (show (k + 1) ≤ w.length ∧ (∀ j, j < (k + 1) → (va_up q (a0 * 48 + k) ((rPl w).getD k 0)) (a0 * 48 + j) = (rPl w).getD j 0) ∧ ∀ x, (x < a0 * 48 ∨ a0 * 48 + 48 ≤ x) → (va_up q (a0 * 48 + k) ((rPl w).getD k 0)) x = wp x from ⟨by omega, lt_s (fun j hj => by rw [va_up_ne _ _ (show a0 * 48 + j ≠ a0 * 48 + k by omega)]; exact hi2 j hj) (va_up_self _ _ _), fun x hx => by rw [va_up_ne _ _ (show x ≠ a0 * 48 + k by omega)]; exact hi3 x hx⟩) (show w.length - (k + 1) < w.length - k from by omega) H locs ls hB (lv_sub hl [2, 3, 4, 5, 0, 1] rfl)
          · have hz3 : nx = -1 := c_62
            have hzn : z < np := by omega
            have hxa := hea z hzn
            have hxb := heb z hzn
            refine wcutX (ls := ls) (σ := Nat) (pc' := 110) (st' := fun o => [.int (nI o)]) (inv := fun o => ((rNd u0 w).getD k 0 = ea z ∧ o = eb z) ∨ ((rNd u0 w).getD k 0 = eb z ∧ o = ea z)) ?_ (fun T110 => ?_)
            · intro o hoe
              have hol : o < n := by rcases hoe with q | q <;> omega
              refine lv_istore (lv' := [(8, .int (nI o)), (0, .ref (b 0)), (1, .int (nI u0)), (2, .int (nI e0)), (3, .int (nI a0)), (4, .int (nI ((rNd u0 w).getD k 0))), (5, .int (nI k)), (6, .int nx), (7, .int (nI z))]) C0.1 C0.2.1 d_MO_walk_110 hl (by decide) rfl (fun ls hl => ?_)
              refine lv_iload C0.1 C0.2.1 d_MO_walk_112 (lv_at hl 0 rfl) ?_
              refine lv_iconst (v := -1) C0.1 C0.2.1 d_MO_walk_114 (by decide) ?_
              refine lv_icmp_eq (tgt := 165) C0.1 C0.2.1 d_MO_walk_115 (by decide) (fun c_115 => ?_) (fun c_115 => ?_)
              · exact absurd c_115 (nI_m1 (by omega))
              · refine lv_aload_n C0.1 C0.2.1 d_MO_walk_118 rfl (lv_at hl 1 rfl) ?_
                refine gf_MO_9 C0 hB.1 0 rfl rfl d_MO_walk_119 ?_
                refine lv_iload C0.1 C0.2.1 d_MO_walk_122 (lv_at hl 0 rfl) ?_
                refine ald_i C0 hB.1 1 0 rfl rfl (by omega) (by decide) d_MO_walk_124 ?_
                refine lv_if_ne (tgt := 134) C0.1 C0.2.1 d_MO_walk_125 (by decide) (fun c_125 => ?_) (fun c_125 => ?_)
                · have hko : kd o ≠ 0 ∨ o = e0 := Or.inl (fun q => c_125 (by rw [q]; rfl))
                  refine lv_aload_n C0.1 C0.2.1 d_MO_walk_134 rfl (lv_at hl 1 rfl) ?_
                  refine lv_iload C0.1 C0.2.1 d_MO_walk_135 (lv_at hl 8 rfl) ?_
                  refine lv_iload C0.1 C0.2.1 d_MO_walk_137 (lv_at hl 5 rfl) ?_
                  refine lv_iload C0.1 C0.2.1 d_MO_walk_139 (lv_at hl 0 rfl) ?_
                  refine cR (As := [.int (nI z), .int (nI ((rNd u0 w).getD k 0)), .int (nI o)]) (rest := []) C0 (c_MO_goes z ((rNd u0 w).getD k 0) o (by omega) (by omega) (by omega) hk) (q_MO_97 C0.2.2.2.2.1 rfl rfl ⟨Nat.le_of_ble_eq_true rfl, Nat.le_of_ble_eq_true rfl⟩) (ci := 5) (q0 := 0) rfl rfl rfl hB.1 hl.1 rfl rfl (Nat.le_of_ble_eq_true rfl) d_MO_walk_141 ⟨Nat.zero_le _, Nat.zero_le _⟩ ?_
                  refine W.eq (g2 := F0 m 144 ls [.int (bI (goB kd ii oo sT sP z ((rNd u0 w).getD k 0) o))]) rfl ?_
                  refine lv_if_eq (tgt := 165) C0.1 C0.2.1 d_MO_walk_144 (by decide) (fun c_144 => ?_) (fun c_144 => ?_)
                  · have hnt : ∀ o, ¬ rTi kd ii oo np ea eb li sT sP e0 d1 z ((rNd u0 w).getD k 0) o := fun o2 q => by rw [oth_u (hne z hzn) q.2.1 hoe] at q; have q4 := q.2.2.2.1; rw [bI_0.mp c_144] at q4; cases q4
                    have hzl : z < (rPl w).getD k 0 := by
                      rcases Nat.lt_or_ge z ((rPl w).getD k 0) with q | q
                      · exact q
                      · exact absurd (by rw [show z = (rPl w).getD k 0 by omega]; exact g2) (hnt ((rNd u0 w).getD (k + 1) 0))
                    refine lv_iconst (v := nI 0) C0.1 C0.2.1 d_MO_walk_165 (by decide) ?_
                    refine lv_istore (lv' := [(9, .int (nI 0)), (8, .int (nI o)), (0, .ref (b 0)), (1, .int (nI u0)), (2, .int (nI e0)), (3, .int (nI a0)), (4, .int (nI ((rNd u0 w).getD k 0))), (5, .int (nI k)), (6, .int nx), (7, .int (nI z))]) C0.1 C0.2.1 d_MO_walk_166 hl (by decide) rfl (fun ls hl => ?_)
                    refine lv_iload C0.1 C0.2.1 d_MO_walk_168 (lv_at hl 0 rfl) ?_
                    refine lv_if_eq (tgt := 227) C0.1 C0.2.1 d_MO_walk_170 (by decide) (fun c_170 => ?_) (fun c_170 => ?_)
                    · refine lv_iinc (v := nI (z + 1)) (lv' := [(7, .int (nI (z + 1))), (9, .int (nI 0)), (8, .int (nI o)), (0, .ref (b 0)), (1, .int (nI u0)), (2, .int (nI e0)), (3, .int (nI a0)), (4, .int (nI ((rNd u0 w).getD k 0))), (5, .int (nI k)), (6, .int nx)]) C0.1 C0.2.1 d_MO_walk_227 hl (k := 9) rfl (inc1 _) (by decide) rfl (fun ls hl => ?_)
                      refine lv_goto (tgt := 59) C0.1 C0.2.1 d_MO_walk_230 (by decide) ?_
                      exact ih_59 ((z + 1), nx) (show (z + 1) ≤ (rPl w).getD k 0 ∧ (nx = -1 ∨ (nx = nI ((rNd u0 w).getD (k + 1) 0) ∧ (z + 1) = (rPl w).getD k 0)) from ⟨hzl, Or.inl hz3⟩) (show 2 * ((rPl w).getD k 0 - (z + 1)) + (if nx = -1 then 1 else 0) < 2 * ((rPl w).getD k 0 - z) + (if nx = -1 then 1 else 0) from by omega) H locs ls hB (lv_sub hl [3, 4, 5, 6, 7, 8, 9, 0] rfl)
                    · exact absurd (by decide) c_170
                  · have hgo := bI_n0.mp c_144
                    refine lv_aload_n C0.1 C0.2.1 d_MO_walk_147 rfl (lv_at hl 1 rfl) ?_
                    refine gf_MO_51 C0 hB.1 0 rfl rfl d_MO_walk_148 ?_
                    refine lv_iload C0.1 C0.2.1 d_MO_walk_151 (lv_at hl 0 rfl) ?_
                    refine ald_l C0 hB.1 14 2 rfl rfl (by omega) (by decide) d_MO_walk_153 ?_
                    refine lv_ldc2 C0.1 C0.2.1 C0.2.2.2.1 (C0.2.2.2.2.1 _ k_MO_91) d_MO_walk_154 ?_
                    refine tl (show (1152921504606846976 : Int64) = lN 1152921504606846976 from rfl) ?_
                    refine W.lcmp C0.1 C0.2.1 d_MO_walk_157 ?_
                    refine lv_if_eq (tgt := 165) C0.1 C0.2.1 d_MO_walk_158 (by decide) (fun c_158 => ?_) (fun c_158 => ?_)
                    · have hnt : ∀ o, ¬ rTi kd ii oo np ea eb li sT sP e0 d1 z ((rNd u0 w).getD k 0) o := fun o2 q => by rw [oth_u (hne z hzn) q.2.1 hoe] at q; exact q.2.2.2.2.1 ((pk_lEQ (Nat.lt_of_le_of_lt (x1.1 o hol) (by decide)) (by decide)).mp ((lg_cmp_eq _ _).mp c_158))
                      have hzl : z < (rPl w).getD k 0 := by
                        rcases Nat.lt_or_ge z ((rPl w).getD k 0) with q | q
                        · exact q
                        · exact absurd (by rw [show z = (rPl w).getD k 0 by omega]; exact g2) (hnt ((rNd u0 w).getD (k + 1) 0))
                      refine lv_iconst (v := nI 0) C0.1 C0.2.1 d_MO_walk_165 (by decide) ?_
                      refine lv_istore (lv' := [(9, .int (nI 0)), (8, .int (nI o)), (0, .ref (b 0)), (1, .int (nI u0)), (2, .int (nI e0)), (3, .int (nI a0)), (4, .int (nI ((rNd u0 w).getD k 0))), (5, .int (nI k)), (6, .int nx), (7, .int (nI z))]) C0.1 C0.2.1 d_MO_walk_166 hl (by decide) rfl (fun ls hl => ?_)
                      refine lv_iload C0.1 C0.2.1 d_MO_walk_168 (lv_at hl 0 rfl) ?_
                      refine lv_if_eq (tgt := 227) C0.1 C0.2.1 d_MO_walk_170 (by decide) (fun c_170 => ?_) (fun c_170 => ?_)
                      · refine lv_iinc (v := nI (z + 1)) (lv' := [(7, .int (nI (z + 1))), (9, .int (nI 0)), (8, .int (nI o)), (0, .ref (b 0)), (1, .int (nI u0)), (2, .int (nI e0)), (3, .int (nI a0)), (4, .int (nI ((rNd u0 w).getD k 0))), (5, .int (nI k)), (6, .int nx)]) C0.1 C0.2.1 d_MO_walk_227 hl (k := 9) rfl (inc1 _) (by decide) rfl (fun ls hl => ?_)
                        refine lv_goto (tgt := 59) C0.1 C0.2.1 d_MO_walk_230 (by decide) ?_
                        exact ih_59 ((z + 1), nx) (show (z + 1) ≤ (rPl w).getD k 0 ∧ (nx = -1 ∨ (nx = nI ((rNd u0 w).getD (k + 1) 0) ∧ (z + 1) = (rPl w).getD k 0)) from ⟨hzl, Or.inl hz3⟩) (show 2 * ((rPl w).getD k 0 - (z + 1)) + (if nx = -1 then 1 else 0) < 2 * ((rPl w).getD k 0 - z) + (if nx = -1 then 1 else 0) from by omega) H locs ls hB (lv_sub hl [3, 4, 5, 6, 7, 8, 9, 0] rfl)
                      · exact absurd (by decide) c_170
                    · have hcf : d1 o ≠ far2 := fun q => c_158 ((lg_cmp_eq _ _).mpr (by rw [q]))
                      refine lv_iconst (v := nI 1) C0.1 C0.2.1 d_MO_walk_161 (by decide) ?_
                      refine lv_goto (tgt := 166) C0.1 C0.2.1 d_MO_walk_162 (by decide) ?_
                      refine lv_istore (lv' := [(9, .int (nI 1)), (8, .int (nI o)), (0, .ref (b 0)), (1, .int (nI u0)), (2, .int (nI e0)), (3, .int (nI a0)), (4, .int (nI ((rNd u0 w).getD k 0))), (5, .int (nI k)), (6, .int nx), (7, .int (nI z))]) C0.1 C0.2.1 d_MO_walk_166 hl (by decide) rfl (fun ls hl => ?_)
                      refine lv_iload C0.1 C0.2.1 d_MO_walk_168 (lv_at hl 0 rfl) ?_
                      refine lv_if_eq (tgt := 227) C0.1 C0.2.1 d_MO_walk_170 (by decide) (fun c_170 => ?_) (fun c_170 => ?_)
                      · exact absurd c_170 (by decide)
                      · refine lv_aload_n C0.1 C0.2.1 d_MO_walk_173 rfl (lv_at hl 2 rfl) ?_
                        refine gf_MO_51 C0 hB.1 0 rfl rfl d_MO_walk_174 ?_
                        refine lv_iload C0.1 C0.2.1 d_MO_walk_177 (lv_at hl 6 rfl) ?_
                        refine ald_l C0 hB.1 14 2 rfl rfl (by omega) (by decide) d_MO_walk_179 ?_
                        refine lv_aload_n C0.1 C0.2.1 d_MO_walk_180 rfl (lv_at hl 2 rfl) ?_
                        refine gf_MO_51 C0 hB.1 0 rfl rfl d_MO_walk_181 ?_
                        refine lv_iload C0.1 C0.2.1 d_MO_walk_184 (lv_at hl 1 rfl) ?_
                        refine ald_l C0 hB.1 14 2 rfl rfl (by omega) (by decide) d_MO_walk_186 ?_
                        refine lv_ldc2 C0.1 C0.2.1 C0.2.2.2.1 (C0.2.2.2.2.1 _ k_MO_100) d_MO_walk_187 ?_
                        refine tl (show (64 : Int64) = lN 64 from rfl) ?_
                        refine lv_aload_n C0.1 C0.2.1 d_MO_walk_190 rfl (lv_at hl 2 rfl) ?_
                        refine gf_MO_32 C0 hB.1 0 rfl rfl d_MO_walk_191 ?_
                        refine lv_iload C0.1 C0.2.1 d_MO_walk_194 (lv_at hl 9 rfl) ?_
                        refine ald_l C0 hB.1 8 2 rfl rfl (by omega) (by decide) d_MO_walk_196 ?_
                        refine lv_lmul C0.1 C0.2.1 d_MO_walk_197 ?_
                        refine tl (show (lN 64) * (lN (li z)) = lN (64 * (li z)) from lN_mul _ _) ?_
                        refine lv_ladd C0.1 C0.2.1 d_MO_walk_198 ?_
                        refine tl (show (lN (d1 o)) + (lN (64 * (li z))) = lN (d1 o + (64 * (li z))) from lN_add _ _) ?_
                        refine wcut (g2 := F0 m 215 ls [.long (lN (valv kd ((rNd u0 w).getD k 0))), .long (lN (d1 o + (64 * (li z)))), .long (lN (d1 ((rNd u0 w).getD k 0)))]) ?_ (fun T215 => ?_)
                        · refine lv_ladd C0.1 C0.2.1 d_MO_walk_215 ?_
                          refine tl (show (lN (d1 o + (64 * (li z)))) + (lN (valv kd ((rNd u0 w).getD k 0))) = lN (d1 o + (64 * (li z)) + (valv kd ((rNd u0 w).getD k 0))) from lN_add _ _) ?_
                          refine W.lcmp C0.1 C0.2.1 d_MO_walk_216 ?_
                          refine lv_if_ne (tgt := 227) C0.1 C0.2.1 d_MO_walk_217 (by decide) (fun c_217 => ?_) (fun c_217 => ?_)
                          · have hnt : ∀ o, ¬ rTi kd ii oo np ea eb li sT sP e0 d1 z ((rNd u0 w).getD k 0) o := fun o2 q => by rw [oth_u (hne z hzn) q.2.1 hoe] at q; exact c_217 ((lg_cmp_eq _ _).mpr (by rw [q.2.2.2.2.2]; unfold wtR; rw [Nat.add_assoc]))
                            have hzl : z < (rPl w).getD k 0 := by
                              rcases Nat.lt_or_ge z ((rPl w).getD k 0) with q | q
                              · exact q
                              · exact absurd (by rw [show z = (rPl w).getD k 0 by omega]; exact g2) (hnt ((rNd u0 w).getD (k + 1) 0))
                            refine lv_iinc (v := nI (z + 1)) (lv' := [(7, .int (nI (z + 1))), (9, .int (nI 1)), (8, .int (nI o)), (0, .ref (b 0)), (1, .int (nI u0)), (2, .int (nI e0)), (3, .int (nI a0)), (4, .int (nI ((rNd u0 w).getD k 0))), (5, .int (nI k)), (6, .int nx)]) C0.1 C0.2.1 d_MO_walk_227 hl (k := 9) rfl (inc1 _) (by decide) rfl (fun ls hl => ?_)
                            refine lv_goto (tgt := 59) C0.1 C0.2.1 d_MO_walk_230 (by decide) ?_
                            exact ih_59 ((z + 1), nx) (show (z + 1) ≤ (rPl w).getD k 0 ∧ (nx = -1 ∨ (nx = nI ((rNd u0 w).getD (k + 1) 0) ∧ (z + 1) = (rPl w).getD k 0)) from ⟨hzl, Or.inl hz3⟩) (show 2 * ((rPl w).getD k 0 - (z + 1)) + (if nx = -1 then 1 else 0) < 2 * ((rPl w).getD k 0 - z) + (if nx = -1 then 1 else 0) from by omega) H locs ls hB (lv_sub hl [3, 4, 5, 6, 7, 8, 9, 0] rfl)
                          · have hb1 : d1 o ≤ 1152921504606846976 := x1.1 o hol
                            have hb2 : d1 ((rNd u0 w).getD k 0) ≤ 1152921504606846976 := x1.1 _ hkn
                            have hb3 := (hli z hzn).2
                            have hb4 : valv kd ((rNd u0 w).getD k 0) ≤ 1 := by unfold valv; split <;> omega
                            have hce := (pk_lEQ (by omega) (by omega)).mp ((lg_cmp_eq _ _).mp c_217)
                            have hti : rTi kd ii oo np ea eb li sT sP e0 d1 z ((rNd u0 w).getD k 0) o := ⟨hzn, hoe, hko, hgo, hcf, by rw [hce]; unfold wtR; rw [Nat.add_assoc]⟩
                            have hzP : z = (rPl w).getD k 0 := by
                              rcases Nat.lt_or_ge z ((rPl w).getD k 0) with q | q
                              · exact absurd hti (g3 z q o)
                              · omega
                            have ho : o = (rNd u0 w).getD (k + 1) 0 := oth_u (hne z hzn) hoe (hzP ▸ g2.2.1)
                            refine lv_iload C0.1 C0.2.1 d_MO_walk_220 (lv_at hl 1 rfl) ?_
                            refine lv_istore (lv' := [(6, .int (nI o)), (9, .int (nI 1)), (8, .int (nI o)), (0, .ref (b 0)), (1, .int (nI u0)), (2, .int (nI e0)), (3, .int (nI a0)), (4, .int (nI ((rNd u0 w).getD k 0))), (5, .int (nI k)), (7, .int (nI z))]) C0.1 C0.2.1 d_MO_walk_222 hl (by decide) rfl (fun ls hl => ?_)
                            refine lv_goto (tgt := 230) C0.1 C0.2.1 d_MO_walk_224 (by decide) ?_
                            refine lv_goto (tgt := 59) C0.1 C0.2.1 d_MO_walk_230 (by decide) ?_
                            exact ih_59 (z, (nI o)) (show z ≤ (rPl w).getD k 0 ∧ ((nI o) = -1 ∨ ((nI o) = nI ((rNd u0 w).getD (k + 1) 0) ∧ z = (rPl w).getD k 0)) from ⟨hz1, Or.inr ⟨by rw [ho], hzP⟩⟩) (show 2 * ((rPl w).getD k 0 - z) + (if (nI o) = -1 then 1 else 0) < 2 * ((rPl w).getD k 0 - z) + (if nx = -1 then 1 else 0) from by rw [hz3, if_pos rfl, if_neg (nI_m1 (by omega))]; omega) H locs ls hB (lv_sub hl [3, 4, 5, 6, 7, 8, 0, 9] rfl)
                        · refine lv_aload_n C0.1 C0.2.1 d_MO_walk_199 rfl (lv_at hl 2 rfl) ?_
                          refine gf_MO_9 C0 hB.1 0 rfl rfl d_MO_walk_200 ?_
                          refine lv_iload C0.1 C0.2.1 d_MO_walk_203 (lv_at hl 6 rfl) ?_
                          refine ald_i C0 hB.1 1 0 rfl rfl (by omega) (by decide) d_MO_walk_205 ?_
                          refine lv_iconst (v := nI 2) C0.1 C0.2.1 d_MO_walk_206 (by decide) ?_
                          refine lv_icmp_ne (tgt := 214) C0.1 C0.2.1 d_MO_walk_207 (by decide) (fun c_207 => ?_) (fun c_207 => ?_)
                          · refine lv_lconst (v := lN 0) C0.1 C0.2.1 d_MO_walk_214 rfl ?_
                            exact tl (show lN 0 = lN (valv kd ((rNd u0 w).getD k 0)) from by rw [show valv kd ((rNd u0 w).getD k 0) = 0 from if_neg (fun q => c_207 (by rw [q]))]) T215
                          · refine lv_lconst (v := lN 1) C0.1 C0.2.1 d_MO_walk_210 rfl ?_
                            refine lv_goto (tgt := 215) C0.1 C0.2.1 d_MO_walk_211 (by decide) ?_
                            exact tl (show lN 1 = lN (valv kd ((rNd u0 w).getD k 0)) from by rw [show valv kd ((rNd u0 w).getD k 0) = 1 from if_pos ((nI_eq (by have := hk ((rNd u0 w).getD k 0); omega) (by decide)).mp c_207)]) T215
                · refine lv_iload C0.1 C0.2.1 d_MO_walk_128 (lv_at hl 0 rfl) ?_
                  refine lv_iload_n C0.1 C0.2.1 d_MO_walk_130 rfl (lv_at hl 3 rfl) ?_
                  refine lv_icmp_ne (tgt := 165) C0.1 C0.2.1 d_MO_walk_131 (by decide) (fun c_131 => ?_) (fun c_131 => ?_)
                  · have hnt : ∀ o, ¬ rTi kd ii oo np ea eb li sT sP e0 d1 z ((rNd u0 w).getD k 0) o := fun o2 q => by rw [oth_u (hne z hzn) q.2.1 hoe] at q; rcases q.2.2.1 with q1 | q1; exact q1 ((nI_eq (by have := hk (o); omega) (by decide)).mp c_125); exact c_131 (by rw [q1])
                    have hzl : z < (rPl w).getD k 0 := by
                      rcases Nat.lt_or_ge z ((rPl w).getD k 0) with q | q
                      · exact q
                      · exact absurd (by rw [show z = (rPl w).getD k 0 by omega]; exact g2) (hnt ((rNd u0 w).getD (k + 1) 0))
                    refine lv_iconst (v := nI 0) C0.1 C0.2.1 d_MO_walk_165 (by decide) ?_
                    refine lv_istore (lv' := [(9, .int (nI 0)), (8, .int (nI o)), (0, .ref (b 0)), (1, .int (nI u0)), (2, .int (nI e0)), (3, .int (nI a0)), (4, .int (nI ((rNd u0 w).getD k 0))), (5, .int (nI k)), (6, .int nx), (7, .int (nI z))]) C0.1 C0.2.1 d_MO_walk_166 hl (by decide) rfl (fun ls hl => ?_)
                    refine lv_iload C0.1 C0.2.1 d_MO_walk_168 (lv_at hl 0 rfl) ?_
                    refine lv_if_eq (tgt := 227) C0.1 C0.2.1 d_MO_walk_170 (by decide) (fun c_170 => ?_) (fun c_170 => ?_)
                    · refine lv_iinc (v := nI (z + 1)) (lv' := [(7, .int (nI (z + 1))), (9, .int (nI 0)), (8, .int (nI o)), (0, .ref (b 0)), (1, .int (nI u0)), (2, .int (nI e0)), (3, .int (nI a0)), (4, .int (nI ((rNd u0 w).getD k 0))), (5, .int (nI k)), (6, .int nx)]) C0.1 C0.2.1 d_MO_walk_227 hl (k := 9) rfl (inc1 _) (by decide) rfl (fun ls hl => ?_)
                      refine lv_goto (tgt := 59) C0.1 C0.2.1 d_MO_walk_230 (by decide) ?_
                      exact ih_59 ((z + 1), nx) (show (z + 1) ≤ (rPl w).getD k 0 ∧ (nx = -1 ∨ (nx = nI ((rNd u0 w).getD (k + 1) 0) ∧ (z + 1) = (rPl w).getD k 0)) from ⟨hzl, Or.inl hz3⟩) (show 2 * ((rPl w).getD k 0 - (z + 1)) + (if nx = -1 then 1 else 0) < 2 * ((rPl w).getD k 0 - z) + (if nx = -1 then 1 else 0) from by omega) H locs ls hB (lv_sub hl [3, 4, 5, 6, 7, 8, 9, 0] rfl)
                    · exact absurd (by decide) c_170
                  · have hko : kd o ≠ 0 ∨ o = e0 := Or.inr ((nI_eq (by omega) (by omega)).mp c_131)
                    refine lv_aload_n C0.1 C0.2.1 d_MO_walk_134 rfl (lv_at hl 1 rfl) ?_
                    refine lv_iload C0.1 C0.2.1 d_MO_walk_135 (lv_at hl 8 rfl) ?_
                    refine lv_iload C0.1 C0.2.1 d_MO_walk_137 (lv_at hl 5 rfl) ?_
                    refine lv_iload C0.1 C0.2.1 d_MO_walk_139 (lv_at hl 0 rfl) ?_
                    refine cR (As := [.int (nI z), .int (nI ((rNd u0 w).getD k 0)), .int (nI o)]) (rest := []) C0 (c_MO_goes z ((rNd u0 w).getD k 0) o (by omega) (by omega) (by omega) hk) (q_MO_97 C0.2.2.2.2.1 rfl rfl ⟨Nat.le_of_ble_eq_true rfl, Nat.le_of_ble_eq_true rfl⟩) (ci := 5) (q0 := 0) rfl rfl rfl hB.1 hl.1 rfl rfl (Nat.le_of_ble_eq_true rfl) d_MO_walk_141 ⟨Nat.zero_le _, Nat.zero_le _⟩ ?_
                    refine W.eq (g2 := F0 m 144 ls [.int (bI (goB kd ii oo sT sP z ((rNd u0 w).getD k 0) o))]) rfl ?_
                    refine lv_if_eq (tgt := 165) C0.1 C0.2.1 d_MO_walk_144 (by decide) (fun c_144 => ?_) (fun c_144 => ?_)
                    · have hnt : ∀ o, ¬ rTi kd ii oo np ea eb li sT sP e0 d1 z ((rNd u0 w).getD k 0) o := fun o2 q => by rw [oth_u (hne z hzn) q.2.1 hoe] at q; have q4 := q.2.2.2.1; rw [bI_0.mp c_144] at q4; cases q4
                      have hzl : z < (rPl w).getD k 0 := by
                        rcases Nat.lt_or_ge z ((rPl w).getD k 0) with q | q
                        · exact q
                        · exact absurd (by rw [show z = (rPl w).getD k 0 by omega]; exact g2) (hnt ((rNd u0 w).getD (k + 1) 0))
                      refine lv_iconst (v := nI 0) C0.1 C0.2.1 d_MO_walk_165 (by decide) ?_
                      refine lv_istore (lv' := [(9, .int (nI 0)), (8, .int (nI o)), (0, .ref (b 0)), (1, .int (nI u0)), (2, .int (nI e0)), (3, .int (nI a0)), (4, .int (nI ((rNd u0 w).getD k 0))), (5, .int (nI k)), (6, .int nx), (7, .int (nI z))]) C0.1 C0.2.1 d_MO_walk_166 hl (by decide) rfl (fun ls hl => ?_)
                      refine lv_iload C0.1 C0.2.1 d_MO_walk_168 (lv_at hl 0 rfl) ?_
                      refine lv_if_eq (tgt := 227) C0.1 C0.2.1 d_MO_walk_170 (by decide) (fun c_170 => ?_) (fun c_170 => ?_)
                      · refine lv_iinc (v := nI (z + 1)) (lv' := [(7, .int (nI (z + 1))), (9, .int (nI 0)), (8, .int (nI o)), (0, .ref (b 0)), (1, .int (nI u0)), (2, .int (nI e0)), (3, .int (nI a0)), (4, .int (nI ((rNd u0 w).getD k 0))), (5, .int (nI k)), (6, .int nx)]) C0.1 C0.2.1 d_MO_walk_227 hl (k := 9) rfl (inc1 _) (by decide) rfl (fun ls hl => ?_)
                        refine lv_goto (tgt := 59) C0.1 C0.2.1 d_MO_walk_230 (by decide) ?_
                        exact ih_59 ((z + 1), nx) (show (z + 1) ≤ (rPl w).getD k 0 ∧ (nx = -1 ∨ (nx = nI ((rNd u0 w).getD (k + 1) 0) ∧ (z + 1) = (rPl w).getD k 0)) from ⟨hzl, Or.inl hz3⟩) (show 2 * ((rPl w).getD k 0 - (z + 1)) + (if nx = -1 then 1 else 0) < 2 * ((rPl w).getD k 0 - z) + (if nx = -1 then 1 else 0) from by omega) H locs ls hB (lv_sub hl [3, 4, 5, 6, 7, 8, 9, 0] rfl)
                      · exact absurd (by decide) c_170
                    · have hgo := bI_n0.mp c_144
                      refine lv_aload_n C0.1 C0.2.1 d_MO_walk_147 rfl (lv_at hl 1 rfl) ?_
                      refine gf_MO_51 C0 hB.1 0 rfl rfl d_MO_walk_148 ?_
                      refine lv_iload C0.1 C0.2.1 d_MO_walk_151 (lv_at hl 0 rfl) ?_
                      refine ald_l C0 hB.1 14 2 rfl rfl (by omega) (by decide) d_MO_walk_153 ?_
                      refine lv_ldc2 C0.1 C0.2.1 C0.2.2.2.1 (C0.2.2.2.2.1 _ k_MO_91) d_MO_walk_154 ?_
                      refine tl (show (1152921504606846976 : Int64) = lN 1152921504606846976 from rfl) ?_
                      refine W.lcmp C0.1 C0.2.1 d_MO_walk_157 ?_
                      refine lv_if_eq (tgt := 165) C0.1 C0.2.1 d_MO_walk_158 (by decide) (fun c_158 => ?_) (fun c_158 => ?_)
                      · have hnt : ∀ o, ¬ rTi kd ii oo np ea eb li sT sP e0 d1 z ((rNd u0 w).getD k 0) o := fun o2 q => by rw [oth_u (hne z hzn) q.2.1 hoe] at q; exact q.2.2.2.2.1 ((pk_lEQ (Nat.lt_of_le_of_lt (x1.1 o hol) (by decide)) (by decide)).mp ((lg_cmp_eq _ _).mp c_158))
                        have hzl : z < (rPl w).getD k 0 := by
                          rcases Nat.lt_or_ge z ((rPl w).getD k 0) with q | q
                          · exact q
                          · exact absurd (by rw [show z = (rPl w).getD k 0 by omega]; exact g2) (hnt ((rNd u0 w).getD (k + 1) 0))
                        refine lv_iconst (v := nI 0) C0.1 C0.2.1 d_MO_walk_165 (by decide) ?_
                        refine lv_istore (lv' := [(9, .int (nI 0)), (8, .int (nI o)), (0, .ref (b 0)), (1, .int (nI u0)), (2, .int (nI e0)), (3, .int (nI a0)), (4, .int (nI ((rNd u0 w).getD k 0))), (5, .int (nI k)), (6, .int nx), (7, .int (nI z))]) C0.1 C0.2.1 d_MO_walk_166 hl (by decide) rfl (fun ls hl => ?_)
                        refine lv_iload C0.1 C0.2.1 d_MO_walk_168 (lv_at hl 0 rfl) ?_
                        refine lv_if_eq (tgt := 227) C0.1 C0.2.1 d_MO_walk_170 (by decide) (fun c_170 => ?_) (fun c_170 => ?_)
                        · refine lv_iinc (v := nI (z + 1)) (lv' := [(7, .int (nI (z + 1))), (9, .int (nI 0)), (8, .int (nI o)), (0, .ref (b 0)), (1, .int (nI u0)), (2, .int (nI e0)), (3, .int (nI a0)), (4, .int (nI ((rNd u0 w).getD k 0))), (5, .int (nI k)), (6, .int nx)]) C0.1 C0.2.1 d_MO_walk_227 hl (k := 9) rfl (inc1 _) (by decide) rfl (fun ls hl => ?_)
                          refine lv_goto (tgt := 59) C0.1 C0.2.1 d_MO_walk_230 (by decide) ?_
                          exact ih_59 ((z + 1), nx) (show (z + 1) ≤ (rPl w).getD k 0 ∧ (nx = -1 ∨ (nx = nI ((rNd u0 w).getD (k + 1) 0) ∧ (z + 1) = (rPl w).getD k 0)) from ⟨hzl, Or.inl hz3⟩) (show 2 * ((rPl w).getD k 0 - (z + 1)) + (if nx = -1 then 1 else 0) < 2 * ((rPl w).getD k 0 - z) + (if nx = -1 then 1 else 0) from by omega) H locs ls hB (lv_sub hl [3, 4, 5, 6, 7, 8, 9, 0] rfl)
                        · exact absurd (by decide) c_170
                      · have hcf : d1 o ≠ far2 := fun q => c_158 ((lg_cmp_eq _ _).mpr (by rw [q]))
                        refine lv_iconst (v := nI 1) C0.1 C0.2.1 d_MO_walk_161 (by decide) ?_
                        refine lv_goto (tgt := 166) C0.1 C0.2.1 d_MO_walk_162 (by decide) ?_
                        refine lv_istore (lv' := [(9, .int (nI 1)), (8, .int (nI o)), (0, .ref (b 0)), (1, .int (nI u0)), (2, .int (nI e0)), (3, .int (nI a0)), (4, .int (nI ((rNd u0 w).getD k 0))), (5, .int (nI k)), (6, .int nx), (7, .int (nI z))]) C0.1 C0.2.1 d_MO_walk_166 hl (by decide) rfl (fun ls hl => ?_)
                        refine lv_iload C0.1 C0.2.1 d_MO_walk_168 (lv_at hl 0 rfl) ?_
                        refine lv_if_eq (tgt := 227) C0.1 C0.2.1 d_MO_walk_170 (by decide) (fun c_170 => ?_) (fun c_170 => ?_)
                        · exact absurd c_170 (by decide)
                        · refine lv_aload_n C0.1 C0.2.1 d_MO_walk_173 rfl (lv_at hl 2 rfl) ?_
                          refine gf_MO_51 C0 hB.1 0 rfl rfl d_MO_walk_174 ?_
                          refine lv_iload C0.1 C0.2.1 d_MO_walk_177 (lv_at hl 6 rfl) ?_
                          refine ald_l C0 hB.1 14 2 rfl rfl (by omega) (by decide) d_MO_walk_179 ?_
                          refine lv_aload_n C0.1 C0.2.1 d_MO_walk_180 rfl (lv_at hl 2 rfl) ?_
                          refine gf_MO_51 C0 hB.1 0 rfl rfl d_MO_walk_181 ?_
                          refine lv_iload C0.1 C0.2.1 d_MO_walk_184 (lv_at hl 1 rfl) ?_
                          refine ald_l C0 hB.1 14 2 rfl rfl (by omega) (by decide) d_MO_walk_186 ?_
                          refine lv_ldc2 C0.1 C0.2.1 C0.2.2.2.1 (C0.2.2.2.2.1 _ k_MO_100) d_MO_walk_187 ?_
                          refine tl (show (64 : Int64) = lN 64 from rfl) ?_
                          refine lv_aload_n C0.1 C0.2.1 d_MO_walk_190 rfl (lv_at hl 2 rfl) ?_
                          refine gf_MO_32 C0 hB.1 0 rfl rfl d_MO_walk_191 ?_
                          refine lv_iload C0.1 C0.2.1 d_MO_walk_194 (lv_at hl 9 rfl) ?_
                          refine ald_l C0 hB.1 8 2 rfl rfl (by omega) (by decide) d_MO_walk_196 ?_
                          refine lv_lmul C0.1 C0.2.1 d_MO_walk_197 ?_
                          refine tl (show (lN 64) * (lN (li z)) = lN (64 * (li z)) from lN_mul _ _) ?_
                          refine lv_ladd C0.1 C0.2.1 d_MO_walk_198 ?_
                          refine tl (show (lN (d1 o)) + (lN (64 * (li z))) = lN (d1 o + (64 * (li z))) from lN_add _ _) ?_
                          refine wcut (g2 := F0 m 215 ls [.long (lN (valv kd ((rNd u0 w).getD k 0))), .long (lN (d1 o + (64 * (li z)))), .long (lN (d1 ((rNd u0 w).getD k 0)))]) ?_ (fun T215 => ?_)
                          · refine lv_ladd C0.1 C0.2.1 d_MO_walk_215 ?_
                            refine tl (show (lN (d1 o + (64 * (li z)))) + (lN (valv kd ((rNd u0 w).getD k 0))) = lN (d1 o + (64 * (li z)) + (valv kd ((rNd u0 w).getD k 0))) from lN_add _ _) ?_
                            refine W.lcmp C0.1 C0.2.1 d_MO_walk_216 ?_
                            refine lv_if_ne (tgt := 227) C0.1 C0.2.1 d_MO_walk_217 (by decide) (fun c_217 => ?_) (fun c_217 => ?_)
                            · have hnt : ∀ o, ¬ rTi kd ii oo np ea eb li sT sP e0 d1 z ((rNd u0 w).getD k 0) o := fun o2 q => by rw [oth_u (hne z hzn) q.2.1 hoe] at q; exact c_217 ((lg_cmp_eq _ _).mpr (by rw [q.2.2.2.2.2]; unfold wtR; rw [Nat.add_assoc]))
                              have hzl : z < (rPl w).getD k 0 := by
                                rcases Nat.lt_or_ge z ((rPl w).getD k 0) with q | q
                                · exact q
                                · exact absurd (by rw [show z = (rPl w).getD k 0 by omega]; exact g2) (hnt ((rNd u0 w).getD (k + 1) 0))
                              refine lv_iinc (v := nI (z + 1)) (lv' := [(7, .int (nI (z + 1))), (9, .int (nI 1)), (8, .int (nI o)), (0, .ref (b 0)), (1, .int (nI u0)), (2, .int (nI e0)), (3, .int (nI a0)), (4, .int (nI ((rNd u0 w).getD k 0))), (5, .int (nI k)), (6, .int nx)]) C0.1 C0.2.1 d_MO_walk_227 hl (k := 9) rfl (inc1 _) (by decide) rfl (fun ls hl => ?_)
                              refine lv_goto (tgt := 59) C0.1 C0.2.1 d_MO_walk_230 (by decide) ?_
                              exact ih_59 ((z + 1), nx) (show (z + 1) ≤ (rPl w).getD k 0 ∧ (nx = -1 ∨ (nx = nI ((rNd u0 w).getD (k + 1) 0) ∧ (z + 1) = (rPl w).getD k 0)) from ⟨hzl, Or.inl hz3⟩) (show 2 * ((rPl w).getD k 0 - (z + 1)) + (if nx = -1 then 1 else 0) < 2 * ((rPl w).getD k 0 - z) + (if nx = -1 then 1 else 0) from by omega) H locs ls hB (lv_sub hl [3, 4, 5, 6, 7, 8, 9, 0] rfl)
                            · have hb1 : d1 o ≤ 1152921504606846976 := x1.1 o hol
                              have hb2 : d1 ((rNd u0 w).getD k 0) ≤ 1152921504606846976 := x1.1 _ hkn
                              have hb3 := (hli z hzn).2
                              have hb4 : valv kd ((rNd u0 w).getD k 0) ≤ 1 := by unfold valv; split <;> omega
                              have hce := (pk_lEQ (by omega) (by omega)).mp ((lg_cmp_eq _ _).mp c_217)
                              have hti : rTi kd ii oo np ea eb li sT sP e0 d1 z ((rNd u0 w).getD k 0) o := ⟨hzn, hoe, hko, hgo, hcf, by rw [hce]; unfold wtR; rw [Nat.add_assoc]⟩
                              have hzP : z = (rPl w).getD k 0 := by
                                rcases Nat.lt_or_ge z ((rPl w).getD k 0) with q | q
                                · exact absurd hti (g3 z q o)
                                · omega
                              have ho : o = (rNd u0 w).getD (k + 1) 0 := oth_u (hne z hzn) hoe (hzP ▸ g2.2.1)
                              refine lv_iload C0.1 C0.2.1 d_MO_walk_220 (lv_at hl 1 rfl) ?_
                              refine lv_istore (lv' := [(6, .int (nI o)), (9, .int (nI 1)), (8, .int (nI o)), (0, .ref (b 0)), (1, .int (nI u0)), (2, .int (nI e0)), (3, .int (nI a0)), (4, .int (nI ((rNd u0 w).getD k 0))), (5, .int (nI k)), (7, .int (nI z))]) C0.1 C0.2.1 d_MO_walk_222 hl (by decide) rfl (fun ls hl => ?_)
                              refine lv_goto (tgt := 230) C0.1 C0.2.1 d_MO_walk_224 (by decide) ?_
                              refine lv_goto (tgt := 59) C0.1 C0.2.1 d_MO_walk_230 (by decide) ?_
                              exact ih_59 (z, (nI o)) (show z ≤ (rPl w).getD k 0 ∧ ((nI o) = -1 ∨ ((nI o) = nI ((rNd u0 w).getD (k + 1) 0) ∧ z = (rPl w).getD k 0)) from ⟨hz1, Or.inr ⟨by rw [ho], hzP⟩⟩) (show 2 * ((rPl w).getD k 0 - z) + (if (nI o) = -1 then 1 else 0) < 2 * ((rPl w).getD k 0 - z) + (if nx = -1 then 1 else 0) from by rw [hz3, if_pos rfl, if_neg (nI_m1 (by omega))]; omega) H locs ls hB (lv_sub hl [3, 4, 5, 6, 7, 8, 0, 9] rfl)
                          · refine lv_aload_n C0.1 C0.2.1 d_MO_walk_199 rfl (lv_at hl 2 rfl) ?_
                            refine gf_MO_9 C0 hB.1 0 rfl rfl d_MO_walk_200 ?_
                            refine lv_iload C0.1 C0.2.1 d_MO_walk_203 (lv_at hl 6 rfl) ?_
                            refine ald_i C0 hB.1 1 0 rfl rfl (by omega) (by decide) d_MO_walk_205 ?_
                            refine lv_iconst (v := nI 2) C0.1 C0.2.1 d_MO_walk_206 (by decide) ?_
                            refine lv_icmp_ne (tgt := 214) C0.1 C0.2.1 d_MO_walk_207 (by decide) (fun c_207 => ?_) (fun c_207 => ?_)
                            · refine lv_lconst (v := lN 0) C0.1 C0.2.1 d_MO_walk_214 rfl ?_
                              exact tl (show lN 0 = lN (valv kd ((rNd u0 w).getD k 0)) from by rw [show valv kd ((rNd u0 w).getD k 0) = 0 from if_neg (fun q => c_207 (by rw [q]))]) T215
                            · refine lv_lconst (v := lN 1) C0.1 C0.2.1 d_MO_walk_210 rfl ?_
                              refine lv_goto (tgt := 215) C0.1 C0.2.1 d_MO_walk_211 (by decide) ?_
                              exact tl (show lN 1 = lN (valv kd ((rNd u0 w).getD k 0)) from by rw [show valv kd ((rNd u0 w).getD k 0) = 1 from if_pos ((nI_eq (by have := hk ((rNd u0 w).getD k 0); omega) (by decide)).mp c_207)]) T215
            · refine lv_aload_n C0.1 C0.2.1 d_MO_walk_65 rfl (lv_at hl 0 rfl) ?_
              refine gf_MO_26 C0 hB.1 0 rfl rfl d_MO_walk_66 ?_
              refine lv_iload C0.1 C0.2.1 d_MO_walk_69 (lv_at hl 7 rfl) ?_
              refine ald_i C0 hB.1 6 0 rfl rfl (by omega) (by decide) d_MO_walk_71 ?_
              refine lv_iload C0.1 C0.2.1 d_MO_walk_72 (lv_at hl 4 rfl) ?_
              refine lv_icmp_ne (tgt := 87) C0.1 C0.2.1 d_MO_walk_74 (by decide) (fun c_74 => ?_) (fun c_74 => ?_)
              · have n1 : ¬ ea z = (rNd u0 w).getD k 0 := fun q => c_74 (by rw [q])
                refine lv_aload_n C0.1 C0.2.1 d_MO_walk_87 rfl (lv_at hl 0 rfl) ?_
                refine gf_MO_29 C0 hB.1 0 rfl rfl d_MO_walk_88 ?_
                refine lv_iload C0.1 C0.2.1 d_MO_walk_91 (lv_at hl 7 rfl) ?_
                refine ald_i C0 hB.1 7 0 rfl rfl (by omega) (by decide) d_MO_walk_93 ?_
                refine lv_iload C0.1 C0.2.1 d_MO_walk_94 (lv_at hl 4 rfl) ?_
                refine lv_icmp_ne (tgt := 109) C0.1 C0.2.1 d_MO_walk_96 (by decide) (fun c_96 => ?_) (fun c_96 => ?_)
                · have hnt : ∀ o, ¬ rTi kd ii oo np ea eb li sT sP e0 d1 z ((rNd u0 w).getD k 0) o := fun o q => by rcases q.2.1 with q1 | q1; exact n1 q1.1.symm; exact c_96 (by rw [q1.1])
                  have hzl : z < (rPl w).getD k 0 := by
                    rcases Nat.lt_or_ge z ((rPl w).getD k 0) with q | q
                    · exact q
                    · exact absurd (by rw [show z = (rPl w).getD k 0 by omega]; exact g2) (hnt ((rNd u0 w).getD (k + 1) 0))
                  refine lv_iconst (v := -1) C0.1 C0.2.1 d_MO_walk_109 (by decide) ?_
                  refine lv_istore (lv' := [(8, .int (-1)), (0, .ref (b 0)), (1, .int (nI u0)), (2, .int (nI e0)), (3, .int (nI a0)), (4, .int (nI ((rNd u0 w).getD k 0))), (5, .int (nI k)), (6, .int nx), (7, .int (nI z))]) C0.1 C0.2.1 d_MO_walk_110 hl (by decide) rfl (fun ls hl => ?_)
                  refine lv_iload C0.1 C0.2.1 d_MO_walk_112 (lv_at hl 0 rfl) ?_
                  refine lv_iconst (v := -1) C0.1 C0.2.1 d_MO_walk_114 (by decide) ?_
                  refine lv_icmp_eq (tgt := 165) C0.1 C0.2.1 d_MO_walk_115 (by decide) (fun c_115 => ?_) (fun c_115 => ?_)
                  · refine lv_iconst (v := nI 0) C0.1 C0.2.1 d_MO_walk_165 (by decide) ?_
                    refine lv_istore (lv' := [(9, .int (nI 0)), (8, .int (-1)), (0, .ref (b 0)), (1, .int (nI u0)), (2, .int (nI e0)), (3, .int (nI a0)), (4, .int (nI ((rNd u0 w).getD k 0))), (5, .int (nI k)), (6, .int nx), (7, .int (nI z))]) C0.1 C0.2.1 d_MO_walk_166 hl (by decide) rfl (fun ls hl => ?_)
                    refine lv_iload C0.1 C0.2.1 d_MO_walk_168 (lv_at hl 0 rfl) ?_
                    refine lv_if_eq (tgt := 227) C0.1 C0.2.1 d_MO_walk_170 (by decide) (fun c_170 => ?_) (fun c_170 => ?_)
                    · refine lv_iinc (v := nI (z + 1)) (lv' := [(7, .int (nI (z + 1))), (9, .int (nI 0)), (8, .int (-1)), (0, .ref (b 0)), (1, .int (nI u0)), (2, .int (nI e0)), (3, .int (nI a0)), (4, .int (nI ((rNd u0 w).getD k 0))), (5, .int (nI k)), (6, .int nx)]) C0.1 C0.2.1 d_MO_walk_227 hl (k := 9) rfl (inc1 _) (by decide) rfl (fun ls hl => ?_)
                      refine lv_goto (tgt := 59) C0.1 C0.2.1 d_MO_walk_230 (by decide) ?_
                      exact ih_59 ((z + 1), nx) (show (z + 1) ≤ (rPl w).getD k 0 ∧ (nx = -1 ∨ (nx = nI ((rNd u0 w).getD (k + 1) 0) ∧ (z + 1) = (rPl w).getD k 0)) from ⟨hzl, Or.inl hz3⟩) (show 2 * ((rPl w).getD k 0 - (z + 1)) + (if nx = -1 then 1 else 0) < 2 * ((rPl w).getD k 0 - z) + (if nx = -1 then 1 else 0) from by omega) H locs ls hB (lv_sub hl [3, 4, 5, 6, 7, 8, 9, 0] rfl)
                    · exact absurd (by decide) c_170
                  · exact absurd rfl c_115
                · have n2 : eb z = (rNd u0 w).getD k 0 := (nI_eq (by omega) (by omega)).mp c_96
                  refine lv_aload_n C0.1 C0.2.1 d_MO_walk_99 rfl (lv_at hl 0 rfl) ?_
                  refine gf_MO_26 C0 hB.1 0 rfl rfl d_MO_walk_100 ?_
                  refine lv_iload C0.1 C0.2.1 d_MO_walk_103 (lv_at hl 7 rfl) ?_
                  refine ald_i C0 hB.1 6 0 rfl rfl (by omega) (by decide) d_MO_walk_105 ?_
                  refine lv_goto (tgt := 110) C0.1 C0.2.1 d_MO_walk_106 (by decide) ?_
                  exact T110 (ea z) (Or.inr ⟨n2.symm, rfl⟩)
              · have n1 : ea z = (rNd u0 w).getD k 0 := (nI_eq (by omega) (by omega)).mp c_74
                refine lv_aload_n C0.1 C0.2.1 d_MO_walk_77 rfl (lv_at hl 0 rfl) ?_
                refine gf_MO_29 C0 hB.1 0 rfl rfl d_MO_walk_78 ?_
                refine lv_iload C0.1 C0.2.1 d_MO_walk_81 (lv_at hl 7 rfl) ?_
                refine ald_i C0 hB.1 7 0 rfl rfl (by omega) (by decide) d_MO_walk_83 ?_
                refine lv_goto (tgt := 110) C0.1 C0.2.1 d_MO_walk_84 (by decide) ?_
                exact T110 (eb z) (Or.inl ⟨n1.symm, rfl⟩)
      · have hfar : d1 u0 = far2 := (pk_lEQ (by have := x1.1 u0 hu0; exact Nat.lt_of_le_of_lt this (by decide)) (by decide)).mp ((lg_cmp_eq _ _).mp c_36)
        refine lv_iconst (v := nI 0) C0.1 C0.2.1 d_MO_walk_39 (by decide) ?_
        exact eM_z C0 hr hlk (b := false) ((d1, wp, wl, wf, wt), none) rfl hB ⟨rfl, Or.inr ⟨rfl, Or.inr ⟨d1, x1, x2, hfar⟩, rfl⟩⟩ (Nat.le_refl _) (Nat.le_refl _) d_MO_walk_40
    · refine lv_iconst (v := nI 0) C0.1 C0.2.1 d_MO_walk_18 (by decide) ?_
      exact eM_z C0 hr hlk (b := false) ((ct, wp, wl, wf, wt), none) rfl hB ⟨rfl, Or.inr ⟨rfl, Or.inl (by rw [bI_n0.mp c_15, Bool.or_true]), rfl⟩⟩ (Nat.le_refl _) (Nat.le_refl _) d_MO_walk_19
end MODEL4

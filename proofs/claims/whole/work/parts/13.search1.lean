section SEARCH1
variable {l : Launch} {g : va_G} {t : Nat → ClassId} {a : Nat → Nat} {n : Nat} {kd : Nat → Nat} {em : Nat → Bool} {br : Nat → Bool} {ii : Nat → Int32} {oo : Nat → Int32} {np : Nat} {ea : Nat → Nat} {eb : Nat → Nat} {li : Nat → Nat} {rn : Nat → Bool} {wa : Nat → Option Nat} {wn : Nat} {sT : Nat → Bool} {sP : Nat → Bool} {ak : Nat} {ap : Nat → Nat} {af : Nat → Nat} {tt : Nat → Nat} {ac : Nat → Nat} {ct : Nat → Nat} {rp : Nat → Nat} {rt : Nat → Nat} {rest : va_W} {L : List Wy}
set_option maxHeartbeats 4000000 in
set_option maxRecDepth 100000 in
theorem c_SE_shutPipe (p0 : Nat) (hp0 : p0 < np) (hn : np ≤ 96) : Mt l y_SE_shutPipe w_SE_shutPipe ({ frames := 1, cells := 0, slots := 0, locals := 21 }) g classes (tyL t) [.ref (a 3), .int (nI p0)] (wW a t n kd em br ii oo np ea eb li rn wa wn sT sP ak ap af tt ac ct rp rt rest L) (S := Unit) (fun v _ => v = none) (fun _ => (wW a t n kd em br ii oo np ea eb li rn wa wn sT (va_up sP p0 true) ak ap af tt ac ct rp rt rest L)) 0 0 := by
  refine Mt.of (cc := b_SE_shutPipe) (maxL := 2) (ret := none) (own := R_SE) (by decide) rfl rfl (Nat.le_of_ble_eq_true rfl) ?_
  intro p e s m args below meth c C0 hr hlk hin A hA hB ls hl
  have hl : lv_has ls 2 [(0, .ref (a 3)), (1, .int (nI p0))] := hl
  refine lv_aload_n C0.1 C0.2.1 d_SE_shutPipe_0 rfl (lv_at hl 0 rfl) ?_
  refine gf_SE_21 C0 hB.1 3 rfl rfl d_SE_shutPipe_1 ?_
  refine lv_iload_n C0.1 C0.2.1 d_SE_shutPipe_4 rfl (lv_at hl 1 rfl) ?_
  refine cR (As := [.int (nI p0)]) (rest := []) C0 (c_PI_has (nI p0) hn) (q_SE_79 C0.2.2.2.2.1 rfl rfl ⟨Nat.le_of_ble_eq_true rfl, Nat.le_of_ble_eq_true rfl⟩) (ci := 2) (q0 := 2) rfl rfl rfl hB.1 hl.1 rfl rfl (Nat.le_of_ble_eq_true rfl) d_SE_shutPipe_5 ⟨Nat.zero_le _, Nat.zero_le _⟩ ?_
  refine W.eq (g2 := F0 m 8 ls [.int (bI (hasB np (nI p0)))]) rfl ?_
  refine lv_if_eq (tgt := 18) C0.1 C0.2.1 d_SE_shutPipe_8 (by decide) (fun c_8 => ?_) (fun c_8 => ?_)
  · exact absurd (bI_0.mp c_8) (by rw [hasB_nI (by omega), decide_eq_true hp0]; decide)
  · refine lv_aload_n C0.1 C0.2.1 d_SE_shutPipe_11 rfl (lv_at hl 0 rfl) ?_
    refine gf_SE_29 C0 hB.1 3 rfl rfl d_SE_shutPipe_12 ?_
    refine lv_iload_n C0.1 C0.2.1 d_SE_shutPipe_15 rfl (lv_at hl 1 rfl) ?_
    refine lv_iconst (v := bI true) C0.1 C0.2.1 d_SE_shutPipe_16 (by decide) ?_
    refine ast_z (w' := (wW a t n kd em br ii oo np ea eb li rn wa wn sT (va_up sP p0 true) ak ap af tt ac ct rp rt rest L)) C0 hB 15 1 rfl rfl (by omega) (by decide) up_bI rfl d_SE_shutPipe_17 (fun H locs hB => ?_)
    exact eM_v C0 hr hlk () hB (rfl) (Nat.le_refl _) (Nat.le_refl _) d_SE_shutPipe_18
set_option maxHeartbeats 4000000 in
set_option maxRecDepth 100000 in
theorem c_SE_shutUnlessTank (v0 : Nat) (hv0 : v0 < n) (hn : n ≤ 48) (hk : ∀ j, kd j < 3) : Mt l y_SE_shutUnlessTank w_SE_shutUnlessTank ({ frames := 1, cells := 0, slots := 0, locals := 21 }) g classes (tyL t) [.ref (a 3), .int (nI v0)] (wW a t n kd em br ii oo np ea eb li rn wa wn sT sP ak ap af tt ac ct rp rt rest L) (S := Nat → Bool) (fun v f => v = none ∧ ∀ x, f x = (sT x || decide (x = v0 ∧ kd v0 ≠ 0))) (fun f => (wW a t n kd em br ii oo np ea eb li rn wa wn f sP ak ap af tt ac ct rp rt rest L)) 0 0 := by
  refine Mt.of (cc := b_SE_shutUnlessTank) (maxL := 2) (ret := none) (own := R_SE) (by decide) rfl rfl (Nat.le_of_ble_eq_true rfl) ?_
  intro p e s m args below meth c C0 hr hlk hin A hA hB ls hl
  have hl : lv_has ls 2 [(0, .ref (a 3)), (1, .int (nI v0))] := hl
  refine lv_aload_n C0.1 C0.2.1 d_SE_shutUnlessTank_0 rfl (lv_at hl 0 rfl) ?_
  refine gf_SE_12 C0 hB.1 3 rfl rfl d_SE_shutUnlessTank_1 ?_
  refine lv_iload_n C0.1 C0.2.1 d_SE_shutUnlessTank_4 rfl (lv_at hl 1 rfl) ?_
  refine cR (As := [.int (nI v0)]) (rest := []) C0 (c_TH_has (nI v0) hn) (q_SE_92 C0.2.2.2.2.1 rfl rfl ⟨Nat.le_of_ble_eq_true rfl, Nat.le_of_ble_eq_true rfl⟩) (ci := 1) (q0 := 1) rfl rfl rfl hB.1 hl.1 rfl rfl (Nat.le_of_ble_eq_true rfl) d_SE_shutUnlessTank_5 ⟨Nat.zero_le _, Nat.zero_le _⟩ ?_
  refine W.eq (g2 := F0 m 8 ls [.int (bI (hasB n (nI v0)))]) rfl ?_
  refine lv_if_eq (tgt := 30) C0.1 C0.2.1 d_SE_shutUnlessTank_8 (by decide) (fun c_8 => ?_) (fun c_8 => ?_)
  · exact absurd (bI_0.mp c_8) (by rw [hasB_nI (by omega), decide_eq_true hv0]; decide)
  · refine lv_aload_n C0.1 C0.2.1 d_SE_shutUnlessTank_11 rfl (lv_at hl 0 rfl) ?_
    refine gf_SE_12 C0 hB.1 3 rfl rfl d_SE_shutUnlessTank_12 ?_
    refine gf_SE_93 C0 hB.1 1 rfl rfl d_SE_shutUnlessTank_15 ?_
    refine lv_iload_n C0.1 C0.2.1 d_SE_shutUnlessTank_18 rfl (lv_at hl 1 rfl) ?_
    refine ald_i C0 hB.1 5 0 rfl rfl (by omega) (by decide) d_SE_shutUnlessTank_19 ?_
    refine lv_if_eq (tgt := 30) C0.1 C0.2.1 d_SE_shutUnlessTank_20 (by decide) (fun c_20 => ?_) (fun c_20 => ?_)
    · exact eM_v C0 hr hlk sT hB ⟨rfl, fun x => su_0 (nI_eq (by have := hk v0; omega) (by decide) |>.mp c_20)⟩ (Nat.le_refl _) (Nat.le_refl _) d_SE_shutUnlessTank_30
    · refine lv_aload_n C0.1 C0.2.1 d_SE_shutUnlessTank_23 rfl (lv_at hl 0 rfl) ?_
      refine gf_SE_25 C0 hB.1 3 rfl rfl d_SE_shutUnlessTank_24 ?_
      refine lv_iload_n C0.1 C0.2.1 d_SE_shutUnlessTank_27 rfl (lv_at hl 1 rfl) ?_
      refine lv_iconst (v := bI true) C0.1 C0.2.1 d_SE_shutUnlessTank_28 (by decide) ?_
      refine ast_z (w' := (wW a t n kd em br ii oo np ea eb li rn wa wn (va_up sT v0 true) sP ak ap af tt ac ct rp rt rest L)) C0 hB 14 1 rfl rfl (by omega) (by decide) up_bI rfl d_SE_shutUnlessTank_29 (fun H locs hB => ?_)
      exact eM_v C0 hr hlk (va_up sT v0 true) hB ⟨rfl, fun x => su_1 (fun q => c_20 (by rw [q]; rfl))⟩ (Nat.le_refl _) (Nat.le_refl _) d_SE_shutUnlessTank_30
set_option maxHeartbeats 4000000 in
set_option maxRecDepth 100000 in
theorem c_SE_openAll (hn : n ≤ 48) (hnp : np ≤ 96) (hk : ∀ j, kd j < 3) (hea : ∀ j, j < np → ea j < n) (heb : ∀ j, j < np → eb j < n) : Mt l y_SE_openAll w_SE_openAll ({ frames := 2, cells := 0, slots := 0, locals := 42 }) g classes (tyL t) [.ref (a 3)] (wW a t n kd em br ii oo np ea eb li rn wa wn sT sP ak ap af tt ac ct rp rt rest L) (S := (Nat → Bool) × (Nat → Bool)) (fun v q => v = none ∧ (∀ x, x < n → q.1 x = shT kd br rn ea eb np x) ∧ ∀ p, p < np → q.2 p = rn p) (fun q => (wW a t n kd em br ii oo np ea eb li rn wa wn q.1 q.2 ak ap af tt ac ct rp rt rest L)) 0 0 := by
  refine Mt.of (cc := b_SE_openAll) (maxL := 2) (ret := none) (own := R_SE) (by decide) rfl rfl (Nat.le_of_ble_eq_true rfl) ?_
  intro p e s m args below meth c C0 hr hlk hin A hA hB ls hl
  have hl : lv_has ls 2 [(0, .ref (a 3))] := hl
  refine lv_iconst (v := nI 0) C0.1 C0.2.1 d_SE_openAll_0 (by decide) ?_
  refine lv_istore_n (lv' := [(1, .int (nI 0)), (0, .ref (a 3))]) C0.1 C0.2.1 d_SE_openAll_1 rfl hl (by decide) rfl (fun ls hl => ?_)
  refine wlM (σ := Nat × (Nat → Bool)) (head := 2) (fun z_ => n - z_.1) (fun z_ => z_.1 ≤ n ∧ ∀ x, x < z_.1 → z_.2 x = br x) (fun z_ => (wW a t n kd em br ii oo np ea eb li rn wa wn z_.2 sP ak ap af tt ac ct rp rt rest L)) (fun z_ => [(0, .ref (a 3)), (1, .int (nI z_.1))]) ?_ (0, sT) (show 0 ≤ n ∧ ∀ x, x < 0 → sT x = br x from ⟨Nat.zero_le _, fun i h => absurd h (Nat.not_lt_zero _)⟩) hB (lv_sub hl [1, 0] rfl)
  rintro ⟨j, f⟩ hi ih_2 H locs ls hB hl
  have hi : j ≤ n ∧ ∀ x, x < j → f x = br x := hi
  obtain ⟨hi1, hi2⟩ := hi
  have hl : lv_has ls 2 [(0, .ref (a 3)), (1, .int (nI j))] := hl
  have hB : wB g classes A s.heap (wW a t n kd em br ii oo np ea eb li rn wa wn f sP ak ap af tt ac ct rp rt rest L) H locs := hB
  refine lv_iload_n C0.1 C0.2.1 d_SE_openAll_2 rfl (lv_at hl 1 rfl) ?_
  refine lv_aload_n C0.1 C0.2.1 d_SE_openAll_3 rfl (lv_at hl 0 rfl) ?_
  refine gf_SE_12 C0 hB.1 3 rfl rfl d_SE_openAll_4 ?_
  refine gf_SE_59 C0 hB.1 1 rfl rfl d_SE_openAll_7 ?_
  refine lv_icmp_ge (tgt := 34) C0.1 C0.2.1 d_SE_openAll_10 (by decide) (fun c_10 => ?_) (fun c_10 => ?_)
  · have hjn : j = n := by have := (nI_leI (by omega) (by omega)).mp c_10; omega
    have hi2 : ∀ x, x < n → f x = br x := fun x hx => hi2 x (by omega)
    refine lv_iconst (v := nI 0) C0.1 C0.2.1 d_SE_openAll_34 (by decide) ?_
    refine lv_istore_n (lv' := [(1, .int (nI 0)), (0, .ref (a 3))]) C0.1 C0.2.1 d_SE_openAll_35 rfl hl (by decide) rfl (fun ls hl => ?_)
    refine wlM (σ := Nat × (Nat → Bool) × (Nat → Bool)) (head := 36) (fun z_ => np - z_.1) (fun z_ => z_.1 ≤ np ∧ (∀ x, x < n → z_.2.1 x = shT kd br rn ea eb z_.1 x) ∧ ∀ q, q < z_.1 → z_.2.2 q = rn q) (fun z_ => (wW a t n kd em br ii oo np ea eb li rn wa wn z_.2.1 z_.2.2 ak ap af tt ac ct rp rt rest L)) (fun z_ => [(0, .ref (a 3)), (1, .int (nI z_.1))]) ?_ (0, f, sP) (show 0 ≤ np ∧ (∀ x, x < n → f x = shT kd br rn ea eb 0 x) ∧ ∀ q, q < 0 → sP q = rn q from ⟨Nat.zero_le _, fun x hx => by rw [shT_0]; exact hi2 x hx, fun i h => absurd h (Nat.not_lt_zero _)⟩) hB (lv_sub hl [1, 0] rfl)
    rintro ⟨k, f, h⟩ hi ih_36 H locs ls hB hl
    have hi : k ≤ np ∧ (∀ x, x < n → f x = shT kd br rn ea eb k x) ∧ ∀ q, q < k → h q = rn q := hi
    obtain ⟨hj1, hj2, hj3⟩ := hi
    have hl : lv_has ls 2 [(0, .ref (a 3)), (1, .int (nI k))] := hl
    have hB : wB g classes A s.heap (wW a t n kd em br ii oo np ea eb li rn wa wn f h ak ap af tt ac ct rp rt rest L) H locs := hB
    refine lv_iload_n C0.1 C0.2.1 d_SE_openAll_36 rfl (lv_at hl 1 rfl) ?_
    refine lv_aload_n C0.1 C0.2.1 d_SE_openAll_37 rfl (lv_at hl 0 rfl) ?_
    refine gf_SE_21 C0 hB.1 3 rfl rfl d_SE_openAll_38 ?_
    refine gf_SE_65 C0 hB.1 2 rfl rfl d_SE_openAll_41 ?_
    refine lv_icmp_ge (tgt := 106) C0.1 C0.2.1 d_SE_openAll_44 (by decide) (fun c_44 => ?_) (fun c_44 => ?_)
    · have hkn : k = np := by have := (nI_leI (by omega) (by omega)).mp c_44; omega
      have hj2 : ∀ x, x < n → f x = shT kd br rn ea eb np x := fun x hx => by rw [← hkn]; exact hj2 x hx
      have hj3 : ∀ q, q < np → h q = rn q := fun q hq => hj3 q (by omega)
      exact eM_v C0 hr hlk (f, h) hB (⟨rfl, hj2, hj3⟩) (Nat.le_refl _) (Nat.le_refl _) d_SE_openAll_106
    · have hk1 : k < np := (nI_nle' (by omega) (by omega)).mp c_44
      have hxa := hea k hk1
      have hxb := heb k hk1
      refine lv_aload_n C0.1 C0.2.1 d_SE_openAll_47 rfl (lv_at hl 0 rfl) ?_
      refine gf_SE_29 C0 hB.1 3 rfl rfl d_SE_openAll_48 ?_
      refine lv_iload_n C0.1 C0.2.1 d_SE_openAll_51 rfl (lv_at hl 1 rfl) ?_
      refine lv_aload_n C0.1 C0.2.1 d_SE_openAll_52 rfl (lv_at hl 0 rfl) ?_
      refine gf_SE_21 C0 hB.1 3 rfl rfl d_SE_openAll_53 ?_
      refine gf_SE_66 C0 hB.1 2 rfl rfl d_SE_openAll_56 ?_
      refine lv_iload_n C0.1 C0.2.1 d_SE_openAll_59 rfl (lv_at hl 1 rfl) ?_
      refine ald_z C0 hB.1 13 1 rfl rfl (by omega) (by decide) d_SE_openAll_60 ?_
      refine ast_z (w' := (wW a t n kd em br ii oo np ea eb li rn wa wn f (va_up h k (rn k)) ak ap af tt ac ct rp rt rest L)) C0 hB 15 1 rfl rfl (by omega) (by decide) up_bI rfl d_SE_openAll_61 (fun H locs hB => ?_)
      refine lv_aload_n C0.1 C0.2.1 d_SE_openAll_62 rfl (lv_at hl 0 rfl) ?_
      refine gf_SE_21 C0 hB.1 3 rfl rfl d_SE_openAll_63 ?_
      refine gf_SE_66 C0 hB.1 2 rfl rfl d_SE_openAll_66 ?_
      refine lv_iload_n C0.1 C0.2.1 d_SE_openAll_69 rfl (lv_at hl 1 rfl) ?_
      refine ald_z C0 hB.1 13 1 rfl rfl (by omega) (by decide) d_SE_openAll_70 ?_
      refine lv_if_eq (tgt := 100) C0.1 C0.2.1 d_SE_openAll_71 (by decide) (fun c_71 => ?_) (fun c_71 => ?_)
      · have c_71 := bI_0.mp c_71
        refine lv_iinc (v := nI (k + 1)) (lv' := [(1, .int (nI (k + 1))), (0, .ref (a 3))]) C0.1 C0.2.1 d_SE_openAll_100 hl (k := 1) rfl (inc1 _) (by decide) rfl (fun ls hl => ?_)
        refine lv_goto (tgt := 36) C0.1 C0.2.1 d_SE_openAll_103 (by decide) ?_
        exact ih_36 ((k + 1), f, (va_up h k (rn k))) (show (k + 1) ≤ np ∧ (∀ x, x < n → f x = shT kd br rn ea eb (k + 1) x) ∧ ∀ q, q < (k + 1) → (va_up h k (rn k)) q = rn q from ⟨by omega, fun x hx => by rw [shT_off c_71]; exact hj2 x hx, lt_s (fun x hx => by rw [va_up_ne _ _ (show x ≠ k by omega)]; exact hj3 x hx) (va_up_self _ _ _)⟩) (show np - (k + 1) < np - k from by show np - (k + 1) < np - k; omega) H locs ls hB (lv_sub hl [1, 0] rfl)
      · have c_71 := bI_n0.mp c_71
        refine lv_aload_n C0.1 C0.2.1 d_SE_openAll_74 rfl (lv_at hl 0 rfl) ?_
        refine lv_aload_n C0.1 C0.2.1 d_SE_openAll_75 rfl (lv_at hl 0 rfl) ?_
        refine gf_SE_21 C0 hB.1 3 rfl rfl d_SE_openAll_76 ?_
        refine gf_SE_69 C0 hB.1 2 rfl rfl d_SE_openAll_79 ?_
        refine lv_iload_n C0.1 C0.2.1 d_SE_openAll_82 rfl (lv_at hl 1 rfl) ?_
        refine ald_i C0 hB.1 10 0 rfl rfl (by omega) (by decide) d_SE_openAll_83 ?_
        refine cM (As := [.int (nI (ea k))]) (rest := []) C0 (c_SE_shutUnlessTank (ea k) (hea k hk1) hn hk) (q_SE_72 C0.2.2.2.2.1 rfl rfl ⟨Nat.le_of_ble_eq_true rfl, Nat.le_of_ble_eq_true rfl⟩) (ci := 3) (q0 := 3) rfl rfl rfl hB hl.1 rfl rfl (Nat.le_of_ble_eq_true rfl) d_SE_openAll_84 ⟨Nat.zero_le _, Nat.zero_le _⟩ (fun v_84 f1 H locs hp_84 hB => ?_)
        obtain ⟨rfl, g1⟩ := hp_84
        have hB : wB g classes A s.heap (wW a t n kd em br ii oo np ea eb li rn wa wn f1 (va_up h k (rn k)) ak ap af tt ac ct rp rt rest L) H locs := hB
        refine W.eq (g2 := F0 m 87 ls []) rfl ?_
        refine lv_aload_n C0.1 C0.2.1 d_SE_openAll_87 rfl (lv_at hl 0 rfl) ?_
        refine lv_aload_n C0.1 C0.2.1 d_SE_openAll_88 rfl (lv_at hl 0 rfl) ?_
        refine gf_SE_21 C0 hB.1 3 rfl rfl d_SE_openAll_89 ?_
        refine gf_SE_76 C0 hB.1 2 rfl rfl d_SE_openAll_92 ?_
        refine lv_iload_n C0.1 C0.2.1 d_SE_openAll_95 rfl (lv_at hl 1 rfl) ?_
        refine ald_i C0 hB.1 11 0 rfl rfl (by omega) (by decide) d_SE_openAll_96 ?_
        refine cM (As := [.int (nI (eb k))]) (rest := []) C0 (c_SE_shutUnlessTank (eb k) (heb k hk1) hn hk) (q_SE_72 C0.2.2.2.2.1 rfl rfl ⟨Nat.le_of_ble_eq_true rfl, Nat.le_of_ble_eq_true rfl⟩) (ci := 3) (q0 := 3) rfl rfl rfl hB hl.1 rfl rfl (Nat.le_of_ble_eq_true rfl) d_SE_openAll_97 ⟨Nat.zero_le _, Nat.zero_le _⟩ (fun v_97 f2 H locs hp_97 hB => ?_)
        obtain ⟨rfl, g2⟩ := hp_97
        have hB : wB g classes A s.heap (wW a t n kd em br ii oo np ea eb li rn wa wn f2 (va_up h k (rn k)) ak ap af tt ac ct rp rt rest L) H locs := hB
        refine W.eq (g2 := F0 m 100 ls []) rfl ?_
        refine lv_iinc (v := nI (k + 1)) (lv' := [(1, .int (nI (k + 1))), (0, .ref (a 3))]) C0.1 C0.2.1 d_SE_openAll_100 hl (k := 1) rfl (inc1 _) (by decide) rfl (fun ls hl => ?_)
        refine lv_goto (tgt := 36) C0.1 C0.2.1 d_SE_openAll_103 (by decide) ?_
        exact ih_36 ((k + 1), f2, (va_up h k (rn k))) (show (k + 1) ≤ np ∧ (∀ x, x < n → f2 x = shT kd br rn ea eb (k + 1) x) ∧ ∀ q, q < (k + 1) → (va_up h k (rn k)) q = rn q from ⟨by omega, fun x hx => by rw [shT_on c_71, ← hj2 x hx, g2 x, g1 x], lt_s (fun x hx => by rw [va_up_ne _ _ (show x ≠ k by omega)]; exact hj3 x hx) (va_up_self _ _ _)⟩) (show np - (k + 1) < np - k from by show np - (k + 1) < np - k; omega) H locs ls hB (lv_sub hl [1, 0] rfl)
  · have hjn : j < n := (nI_nle' (by omega) (by omega)).mp c_10
    refine lv_aload_n C0.1 C0.2.1 d_SE_openAll_13 rfl (lv_at hl 0 rfl) ?_
    refine gf_SE_25 C0 hB.1 3 rfl rfl d_SE_openAll_14 ?_
    refine lv_iload_n C0.1 C0.2.1 d_SE_openAll_17 rfl (lv_at hl 1 rfl) ?_
    refine lv_aload_n C0.1 C0.2.1 d_SE_openAll_18 rfl (lv_at hl 0 rfl) ?_
    refine gf_SE_12 C0 hB.1 3 rfl rfl d_SE_openAll_19 ?_
    refine gf_SE_62 C0 hB.1 1 rfl rfl d_SE_openAll_22 ?_
    refine lv_iload_n C0.1 C0.2.1 d_SE_openAll_25 rfl (lv_at hl 1 rfl) ?_
    refine ald_z C0 hB.1 7 1 rfl rfl (by omega) (by decide) d_SE_openAll_26 ?_
    refine ast_z (w' := (wW a t n kd em br ii oo np ea eb li rn wa wn (va_up f j (br j)) sP ak ap af tt ac ct rp rt rest L)) C0 hB 14 1 rfl rfl (by omega) (by decide) up_bI rfl d_SE_openAll_27 (fun H locs hB => ?_)
    refine lv_iinc (v := nI (j + 1)) (lv' := [(1, .int (nI (j + 1))), (0, .ref (a 3))]) C0.1 C0.2.1 d_SE_openAll_28 hl (k := 1) rfl (inc1 _) (by decide) rfl (fun ls hl => ?_)
    refine lv_goto (tgt := 2) C0.1 C0.2.1 d_SE_openAll_31 (by decide) ?_
    exact ih_2 ((j + 1), (va_up f j (br j))) (show (j + 1) ≤ n ∧ ∀ x, x < (j + 1) → (va_up f j (br j)) x = br x from ⟨by omega, lt_s (fun x hx => by rw [va_up_ne _ _ (show x ≠ j by omega)]; exact hi2 x hx) (va_up_self _ _ _)⟩) (show n - (j + 1) < n - j from by show n - (j + 1) < n - j; omega) H locs ls hB (lv_sub hl [1, 0] rfl)
set_option maxHeartbeats 4000000 in
set_option maxRecDepth 100000 in
theorem c_SE_layArc (p0 u v e0 : Nat) (hp0 : p0 < 96) (hu : u < 48) (hv : v < 48) (he0 : e0 < 48) (hak : ak < 192) (hk : ∀ j, kd j < 3) : Mt l y_SE_layArc w_SE_layArc ({ frames := 1, cells := 0, slots := 0, locals := 24 }) g classes (tyL t) [.ref (a 3), .int (nI p0), .int (nI u), .int (nI v), .int (nI e0)] (wW a t n kd em br ii oo np ea eb li rn wa wn sT sP ak ap af tt ac ct rp rt rest L) (S := Nat × (Nat → Nat) × (Nat → Nat) × (Nat → Nat) × (Nat → Nat)) (fun w q => w = none ∧ Laid (okA kd ii oo sT e0 u v) (64 * li p0 + valv kd v) p0 u v ak ap af tt ac q.1 q.2.1 q.2.2.1 q.2.2.2.1 q.2.2.2.2) (fun q => (wW a t n kd em br ii oo np ea eb li rn wa wn sT sP q.1 q.2.1 q.2.2.1 q.2.2.2.1 q.2.2.2.2 ct rp rt rest L)) 0 0 := by
  refine Mt.of (cc := b_SE_layArc) (maxL := 9) (ret := none) (own := R_SE) (by decide) rfl rfl (Nat.le_of_ble_eq_true rfl) ?_
  intro p e s m args below meth c C0 hr hlk hin A hA hB ls hl
  have hl : lv_has ls 9 [(0, .ref (a 3)), (1, .int (nI p0)), (2, .int (nI u)), (3, .int (nI v)), (4, .int (nI e0))] := hl
  refine wcut (g2 := F0 m 23 ls [.int (bI (sT u || sT v))]) ?_ (fun T23 => ?_)
  · refine lv_istore (lv' := [(5, .int (bI (sT u || sT v))), (0, .ref (a 3)), (1, .int (nI p0)), (2, .int (nI u)), (3, .int (nI v)), (4, .int (nI e0))]) C0.1 C0.2.1 d_SE_layArc_23 hl (by decide) rfl (fun ls hl => ?_)
    refine wcut (g2 := F0 m 48 ls [.int (bI (decide (kd v = 0) && decide (v ≠ e0)))]) ?_ (fun T48 => ?_)
    · refine lv_istore (lv' := [(6, .int (bI (decide (kd v = 0) && decide (v ≠ e0)))), (5, .int (bI (sT u || sT v))), (0, .ref (a 3)), (1, .int (nI p0)), (2, .int (nI u)), (3, .int (nI v)), (4, .int (nI e0))]) C0.1 C0.2.1 d_SE_layArc_48 hl (by decide) rfl (fun ls hl => ?_)
      refine lv_iload C0.1 C0.2.1 d_SE_layArc_50 (lv_at hl 1 rfl) ?_
      refine lv_if_ne (tgt := 82) C0.1 C0.2.1 d_SE_layArc_52 (by decide) (fun c_52 => ?_) (fun c_52 => ?_)
      · exact eM_v C0 hr hlk (ak, ap, af, tt, ac) hB ⟨rfl, Or.inr ⟨ok_1 (bI_n0.mp c_52), rfl, rfl, rfl, rfl, rfl⟩⟩ (Nat.le_refl _) (Nat.le_refl _) d_SE_layArc_82
      · refine lv_iload C0.1 C0.2.1 d_SE_layArc_55 (lv_at hl 0 rfl) ?_
        refine lv_if_ne (tgt := 82) C0.1 C0.2.1 d_SE_layArc_57 (by decide) (fun c_57 => ?_) (fun c_57 => ?_)
        · exact eM_v C0 hr hlk (ak, ap, af, tt, ac) hB ⟨rfl, Or.inr ⟨ok_2 (bI_n0.mp c_57), rfl, rfl, rfl, rfl, rfl⟩⟩ (Nat.le_refl _) (Nat.le_refl _) d_SE_layArc_82
        · refine lv_aload_n C0.1 C0.2.1 d_SE_layArc_60 rfl (lv_at hl 2 rfl) ?_
          refine gf_SE_12 C0 hB.1 3 rfl rfl d_SE_layArc_61 ?_
          refine lv_iload_n C0.1 C0.2.1 d_SE_layArc_64 rfl (lv_at hl 4 rfl) ?_
          refine lv_iload_n C0.1 C0.2.1 d_SE_layArc_65 rfl (lv_at hl 5 rfl) ?_
          refine cR (As := [.int (nI u), .int (nI v)]) (rest := []) C0 (c_TH_letFlow u v hu hv hk) (q_SE_112 C0.2.2.2.2.1 rfl rfl ⟨Nat.le_of_ble_eq_true rfl, Nat.le_of_ble_eq_true rfl⟩) (ci := 1) (q0 := 1) rfl rfl rfl hB.1 hl.1 rfl rfl (Nat.le_of_ble_eq_true rfl) d_SE_layArc_66 ⟨Nat.zero_le _, Nat.zero_le _⟩ ?_
          refine W.eq (g2 := F0 m 69 ls [.int (bI (letB kd ii oo u v))]) rfl ?_
          refine lv_if_eq (tgt := 82) C0.1 C0.2.1 d_SE_layArc_69 (by decide) (fun c_69 => ?_) (fun c_69 => ?_)
          · exact eM_v C0 hr hlk (ak, ap, af, tt, ac) hB ⟨rfl, Or.inr ⟨ok_3 (bI_0.mp c_69), rfl, rfl, rfl, rfl, rfl⟩⟩ (Nat.le_refl _) (Nat.le_refl _) d_SE_layArc_82
          · have hok : okA kd ii oo sT e0 u v = true := ok_4 (bI_0.mp c_52) (bI_0.mp c_57) (bI_n0.mp c_69)
            refine lv_aload_n C0.1 C0.2.1 d_SE_layArc_72 rfl (lv_at hl 2 rfl) ?_
            refine gf_SE_46 C0 hB.1 3 rfl rfl d_SE_layArc_73 ?_
            refine lv_sipush (v := nI 192) C0.1 C0.2.1 d_SE_layArc_76 (by decide) ?_
            refine lv_icmp_lt (tgt := 83) C0.1 C0.2.1 d_SE_layArc_79 (by decide) (fun c_79 => ?_) (fun c_79 => ?_)
            · refine wcut (g2 := F0 m 101 ls [.long (lN (valv kd v))]) ?_ (fun T101 => ?_)
              · refine lv_lstore (lv' := [(7, .long (lN (valv kd v))), (6, .int (bI (decide (kd v = 0) && decide (v ≠ e0)))), (5, .int (bI (sT u || sT v))), (0, .ref (a 3)), (1, .int (nI p0)), (2, .int (nI u)), (3, .int (nI v)), (4, .int (nI e0))]) C0.1 C0.2.1 d_SE_layArc_101 hl (by decide) rfl (fun ls hl => ?_)
                refine lv_aload_n C0.1 C0.2.1 d_SE_layArc_103 rfl (lv_at hl 3 rfl) ?_
                refine gf_SE_32 C0 hB.1 3 rfl rfl d_SE_layArc_104 ?_
                refine lv_aload_n C0.1 C0.2.1 d_SE_layArc_107 rfl (lv_at hl 3 rfl) ?_
                refine gf_SE_46 C0 hB.1 3 rfl rfl d_SE_layArc_108 ?_
                refine lv_iload_n C0.1 C0.2.1 d_SE_layArc_111 rfl (lv_at hl 4 rfl) ?_
                refine ast_i (w' := (wW a t n kd em br ii oo np ea eb li rn wa wn sT sP ak (va_up ap ak p0) af tt ac ct rp rt rest L)) C0 hB 16 0 rfl rfl (by omega) (by decide) up_nI rfl d_SE_layArc_112 (fun H locs hB => ?_)
                refine lv_aload_n C0.1 C0.2.1 d_SE_layArc_113 rfl (lv_at hl 3 rfl) ?_
                refine gf_SE_36 C0 hB.1 3 rfl rfl d_SE_layArc_114 ?_
                refine lv_aload_n C0.1 C0.2.1 d_SE_layArc_117 rfl (lv_at hl 3 rfl) ?_
                refine gf_SE_46 C0 hB.1 3 rfl rfl d_SE_layArc_118 ?_
                refine lv_iload_n C0.1 C0.2.1 d_SE_layArc_121 rfl (lv_at hl 5 rfl) ?_
                refine ast_i (w' := (wW a t n kd em br ii oo np ea eb li rn wa wn sT sP ak (va_up ap ak p0) (va_up af ak u) tt ac ct rp rt rest L)) C0 hB 17 0 rfl rfl (by omega) (by decide) up_nI rfl d_SE_layArc_122 (fun H locs hB => ?_)
                refine lv_aload_n C0.1 C0.2.1 d_SE_layArc_123 rfl (lv_at hl 3 rfl) ?_
                refine gf_SE_39 C0 hB.1 3 rfl rfl d_SE_layArc_124 ?_
                refine lv_aload_n C0.1 C0.2.1 d_SE_layArc_127 rfl (lv_at hl 3 rfl) ?_
                refine gf_SE_46 C0 hB.1 3 rfl rfl d_SE_layArc_128 ?_
                refine lv_iload_n C0.1 C0.2.1 d_SE_layArc_131 rfl (lv_at hl 6 rfl) ?_
                refine ast_i (w' := (wW a t n kd em br ii oo np ea eb li rn wa wn sT sP ak (va_up ap ak p0) (va_up af ak u) (va_up tt ak v) ac ct rp rt rest L)) C0 hB 18 0 rfl rfl (by omega) (by decide) up_nI rfl d_SE_layArc_132 (fun H locs hB => ?_)
                refine lv_aload_n C0.1 C0.2.1 d_SE_layArc_133 rfl (lv_at hl 3 rfl) ?_
                refine gf_SE_42 C0 hB.1 3 rfl rfl d_SE_layArc_134 ?_
                refine lv_aload_n C0.1 C0.2.1 d_SE_layArc_137 rfl (lv_at hl 3 rfl) ?_
                refine gf_SE_46 C0 hB.1 3 rfl rfl d_SE_layArc_138 ?_
                refine lv_aload_n C0.1 C0.2.1 d_SE_layArc_141 rfl (lv_at hl 3 rfl) ?_
                refine gf_SE_21 C0 hB.1 3 rfl rfl d_SE_layArc_142 ?_
                refine gf_SE_116 C0 hB.1 2 rfl rfl d_SE_layArc_145 ?_
                refine lv_iload_n C0.1 C0.2.1 d_SE_layArc_148 rfl (lv_at hl 4 rfl) ?_
                refine ald_l C0 hB.1 12 2 rfl rfl (by omega) (by decide) d_SE_layArc_149 ?_
                refine lv_ldc2 C0.1 C0.2.1 C0.2.2.2.1 (C0.2.2.2.2.1 _ k_SE_119) d_SE_layArc_150 ?_
                refine tl (show (64 : Int64) = lN 64 from rfl) ?_
                refine lv_lmul C0.1 C0.2.1 d_SE_layArc_153 ?_
                refine tl (show (lN (li p0)) * (lN 64) = lN (64 * li p0) from by rw [lN_mul, Nat.mul_comm]) ?_
                refine lv_lload C0.1 C0.2.1 d_SE_layArc_154 (lv_at hl 0 rfl) ?_
                refine lv_ladd C0.1 C0.2.1 d_SE_layArc_156 ?_
                refine tl (show (lN (64 * li p0)) + (lN (valv kd v)) = lN (64 * li p0 + (valv kd v)) from lN_add _ _) ?_
                refine ast_l (w' := (wW a t n kd em br ii oo np ea eb li rn wa wn sT sP ak (va_up ap ak p0) (va_up af ak u) (va_up tt ak v) (va_up ac ak (64 * li p0 + (valv kd v))) ct rp rt rest L)) C0 hB 19 2 rfl rfl (by omega) (by decide) up_lN rfl d_SE_layArc_157 (fun H locs hB => ?_)
                refine lv_aload_n C0.1 C0.2.1 d_SE_layArc_158 rfl (lv_at hl 3 rfl) ?_
                refine lv_dup C0.1 C0.2.1 d_SE_layArc_159 rfl ?_
                refine gf_SE_46 C0 hB.1 3 rfl rfl d_SE_layArc_160 ?_
                refine lv_iconst (v := nI 1) C0.1 C0.2.1 d_SE_layArc_163 (by decide) ?_
                refine lv_iadd C0.1 C0.2.1 d_SE_layArc_164 ?_
                refine ti (show (nI ak) + (nI 1) = nI (ak + 1) from nI_add _ _) ?_
                refine pf_SE_46 (w' := (wW a t n kd em br ii oo np ea eb li rn wa wn sT sP (ak + 1) (va_up ap ak p0) (va_up af ak u) (va_up tt ak v) (va_up ac ak (64 * li p0 + (valv kd v))) ct rp rt rest L)) C0 hB 3 rfl (Nat.le_of_ble_eq_true rfl) rfl rfl rfl d_SE_layArc_165 (fun H locs hB => ?_)
                exact eM_v C0 hr hlk (ak + 1, va_up ap ak p0, va_up af ak u, va_up tt ak v, va_up ac ak (64 * li p0 + valv kd v)) hB ⟨rfl, Or.inl ⟨hok, rfl, rfl, rfl, rfl, rfl⟩⟩ (Nat.le_refl _) (Nat.le_refl _) d_SE_layArc_168
              · refine lv_aload_n C0.1 C0.2.1 d_SE_layArc_83 rfl (lv_at hl 2 rfl) ?_
                refine gf_SE_12 C0 hB.1 3 rfl rfl d_SE_layArc_84 ?_
                refine gf_SE_93 C0 hB.1 1 rfl rfl d_SE_layArc_87 ?_
                refine lv_iload_n C0.1 C0.2.1 d_SE_layArc_90 rfl (lv_at hl 5 rfl) ?_
                refine ald_i C0 hB.1 5 0 rfl rfl (by omega) (by decide) d_SE_layArc_91 ?_
                refine lv_iconst (v := nI 2) C0.1 C0.2.1 d_SE_layArc_92 (by decide) ?_
                refine lv_icmp_ne (tgt := 100) C0.1 C0.2.1 d_SE_layArc_93 (by decide) (fun c_93 => ?_) (fun c_93 => ?_)
                · refine lv_lconst (v := lN 0) C0.1 C0.2.1 d_SE_layArc_100 rfl ?_
                  exact tl (show lN 0 = lN (valv kd v) from by rw [show valv kd v = 0 from if_neg (fun q => c_93 (by rw [q]))]) T101
                · refine lv_lconst (v := lN 1) C0.1 C0.2.1 d_SE_layArc_96 rfl ?_
                  refine lv_goto (tgt := 101) C0.1 C0.2.1 d_SE_layArc_97 (by decide) ?_
                  exact tl (show lN 1 = lN (valv kd v) from by rw [show valv kd v = 1 from if_pos ((nI_eq (by have := hk v; omega) (by decide)).mp c_93)]) T101
            · exact absurd ((nI_ltI (by omega) (by omega)).mpr hak) c_79
    · refine lv_aload_n C0.1 C0.2.1 d_SE_layArc_25 rfl (lv_at hl 1 rfl) ?_
      refine gf_SE_12 C0 hB.1 3 rfl rfl d_SE_layArc_26 ?_
      refine gf_SE_93 C0 hB.1 1 rfl rfl d_SE_layArc_29 ?_
      refine lv_iload_n C0.1 C0.2.1 d_SE_layArc_32 rfl (lv_at hl 4 rfl) ?_
      refine ald_i C0 hB.1 5 0 rfl rfl (by omega) (by decide) d_SE_layArc_33 ?_
      refine lv_if_ne (tgt := 47) C0.1 C0.2.1 d_SE_layArc_34 (by decide) (fun c_34 => ?_) (fun c_34 => ?_)
      · refine lv_iconst (v := nI 0) C0.1 C0.2.1 d_SE_layArc_47 (by decide) ?_
        exact ti (show nI 0 = bI (decide (kd v = 0) && decide (v ≠ e0)) from by rw [decide_eq_false (show ¬ kd v = 0 from fun q => c_34 (by rw [q]; rfl))]; rfl) T48
      · refine lv_iload_n C0.1 C0.2.1 d_SE_layArc_37 rfl (lv_at hl 4 rfl) ?_
        refine lv_iload C0.1 C0.2.1 d_SE_layArc_38 (lv_at hl 5 rfl) ?_
        refine lv_icmp_eq (tgt := 47) C0.1 C0.2.1 d_SE_layArc_40 (by decide) (fun c_40 => ?_) (fun c_40 => ?_)
        · refine lv_iconst (v := nI 0) C0.1 C0.2.1 d_SE_layArc_47 (by decide) ?_
          exact ti (show nI 0 = bI (decide (kd v = 0) && decide (v ≠ e0)) from by rw [decide_eq_false (show ¬ (v ≠ e0) from fun q => q ((nI_eq (by omega) (by omega)).mp c_40)), Bool.and_false]; rfl) T48
        · refine lv_iconst (v := nI 1) C0.1 C0.2.1 d_SE_layArc_43 (by decide) ?_
          refine lv_goto (tgt := 48) C0.1 C0.2.1 d_SE_layArc_44 (by decide) ?_
          exact ti (show nI 1 = bI (decide (kd v = 0) && decide (v ≠ e0)) from by rw [decide_eq_true (show v ≠ e0 from fun q => c_40 (by rw [q])), decide_eq_true (show kd v = 0 from (nI_eq (by have := hk v; omega) (by decide)).mp c_34)]; rfl) T48
  · refine lv_aload_n C0.1 C0.2.1 d_SE_layArc_0 rfl (lv_at hl 0 rfl) ?_
    refine gf_SE_25 C0 hB.1 3 rfl rfl d_SE_layArc_1 ?_
    refine lv_iload_n C0.1 C0.2.1 d_SE_layArc_4 rfl (lv_at hl 2 rfl) ?_
    refine ald_z C0 hB.1 14 1 rfl rfl (by omega) (by decide) d_SE_layArc_5 ?_
    refine lv_if_ne (tgt := 18) C0.1 C0.2.1 d_SE_layArc_6 (by decide) (fun c_6 => ?_) (fun c_6 => ?_)
    · refine lv_iconst (v := nI 1) C0.1 C0.2.1 d_SE_layArc_18 (by decide) ?_
      refine lv_goto (tgt := 23) C0.1 C0.2.1 d_SE_layArc_19 (by decide) ?_
      exact ti (show nI 1 = bI (sT u || sT v) from by rw [bI_n0.mp c_6]; rfl) T23
    · refine lv_aload_n C0.1 C0.2.1 d_SE_layArc_9 rfl (lv_at hl 0 rfl) ?_
      refine gf_SE_25 C0 hB.1 3 rfl rfl d_SE_layArc_10 ?_
      refine lv_iload_n C0.1 C0.2.1 d_SE_layArc_13 rfl (lv_at hl 3 rfl) ?_
      refine ald_z C0 hB.1 14 1 rfl rfl (by omega) (by decide) d_SE_layArc_14 ?_
      refine lv_if_eq (tgt := 22) C0.1 C0.2.1 d_SE_layArc_15 (by decide) (fun c_15 => ?_) (fun c_15 => ?_)
      · refine lv_iconst (v := nI 0) C0.1 C0.2.1 d_SE_layArc_22 (by decide) ?_
        exact ti (show nI 0 = bI (sT u || sT v) from by rw [bI_0.mp c_6, bI_0.mp c_15]; rfl) T23
      · refine lv_iconst (v := nI 1) C0.1 C0.2.1 d_SE_layArc_18 (by decide) ?_
        refine lv_goto (tgt := 23) C0.1 C0.2.1 d_SE_layArc_19 (by decide) ?_
        exact ti (show nI 1 = bI (sT u || sT v) from by rw [bI_n0.mp c_15, Bool.or_true]; rfl) T23
set_option maxHeartbeats 4000000 in
set_option maxRecDepth 100000 in
theorem c_SE_layArcs (e0 : Nat) (he0 : e0 < 48) (hn : n ≤ 48) (hnp : np ≤ 96) (hk : ∀ j, kd j < 3) (hea : ∀ j, j < np → ea j < n) (heb : ∀ j, j < np → eb j < n) : Mt l y_SE_layArcs w_SE_layArcs ({ frames := 2, cells := 0, slots := 0, locals := 52 }) g classes (tyL t) [.ref (a 3), .int (nI e0)] (wW a t n kd em br ii oo np ea eb li rn wa wn sT sP ak ap af tt ac ct rp rt rest L) (S := Nat × (Nat → Nat) × (Nat → Nat) × (Nat → Nat) × (Nat → Nat)) (fun v q => v = none ∧ Arcs kd ii oo ea eb li sT sP e0 np q.1 q.2.1 q.2.2.1 q.2.2.2.1 q.2.2.2.2) (fun q => (wW a t n kd em br ii oo np ea eb li rn wa wn sT sP q.1 q.2.1 q.2.2.1 q.2.2.2.1 q.2.2.2.2 ct rp rt rest L)) 0 0 := by
  refine Mt.of (cc := b_SE_layArcs) (maxL := 3) (ret := none) (own := R_SE) (by decide) rfl rfl (Nat.le_of_ble_eq_true rfl) ?_
  intro p e s m args below meth c C0 hr hlk hin A hA hB ls hl
  have hl : lv_has ls 3 [(0, .ref (a 3)), (1, .int (nI e0))] := hl
  refine lv_aload_n C0.1 C0.2.1 d_SE_layArcs_0 rfl (lv_at hl 0 rfl) ?_
  refine lv_iconst (v := nI 0) C0.1 C0.2.1 d_SE_layArcs_1 (by decide) ?_
  refine pf_SE_46 (w' := (wW a t n kd em br ii oo np ea eb li rn wa wn sT sP 0 ap af tt ac ct rp rt rest L)) C0 hB 3 rfl (Nat.le_of_ble_eq_true rfl) rfl rfl rfl d_SE_layArcs_2 (fun H locs hB => ?_)
  refine lv_iconst (v := nI 0) C0.1 C0.2.1 d_SE_layArcs_5 (by decide) ?_
  refine lv_istore_n (lv' := [(2, .int (nI 0)), (0, .ref (a 3)), (1, .int (nI e0))]) C0.1 C0.2.1 d_SE_layArcs_6 rfl hl (by decide) rfl (fun ls hl => ?_)
  refine wlM (σ := Nat × Nat × (Nat → Nat) × (Nat → Nat) × (Nat → Nat) × (Nat → Nat)) (head := 7) (fun z_ => np - z_.1) (fun z_ => z_.1 ≤ np ∧ Arcs kd ii oo ea eb li sT sP e0 z_.1 z_.2.1 z_.2.2.1 z_.2.2.2.1 z_.2.2.2.2.1 z_.2.2.2.2.2) (fun z_ => (wW a t n kd em br ii oo np ea eb li rn wa wn sT sP z_.2.1 z_.2.2.1 z_.2.2.2.1 z_.2.2.2.2.1 z_.2.2.2.2.2 ct rp rt rest L)) (fun z_ => [(0, .ref (a 3)), (1, .int (nI e0)), (2, .int (nI z_.1))]) ?_ (0, 0, ap, af, tt, ac) (show 0 ≤ np ∧ Arcs kd ii oo ea eb li sT sP e0 0 0 ap af tt ac from ⟨Nat.zero_le _, Arcs_0⟩) hB (lv_sub hl [1, 2, 0] rfl)
  rintro ⟨j, k, p1, f1, t1, c1⟩ hi ih_7 H locs ls hB hl
  have hi : j ≤ np ∧ Arcs kd ii oo ea eb li sT sP e0 j k p1 f1 t1 c1 := hi
  obtain ⟨hi1, hi2⟩ := hi
  have hl : lv_has ls 3 [(0, .ref (a 3)), (1, .int (nI e0)), (2, .int (nI j))] := hl
  have hB : wB g classes A s.heap (wW a t n kd em br ii oo np ea eb li rn wa wn sT sP k p1 f1 t1 c1 ct rp rt rest L) H locs := hB
  refine lv_iload_n C0.1 C0.2.1 d_SE_layArcs_7 rfl (lv_at hl 2 rfl) ?_
  refine lv_aload_n C0.1 C0.2.1 d_SE_layArcs_8 rfl (lv_at hl 0 rfl) ?_
  refine gf_SE_21 C0 hB.1 3 rfl rfl d_SE_layArcs_9 ?_
  refine gf_SE_65 C0 hB.1 2 rfl rfl d_SE_layArcs_12 ?_
  refine lv_icmp_ge (tgt := 81) C0.1 C0.2.1 d_SE_layArcs_15 (by decide) (fun c_15 => ?_) (fun c_15 => ?_)
  · have hj : j = np := by have := (nI_leI (by omega) (by omega)).mp c_15; omega
    have hi2 : Arcs kd ii oo ea eb li sT sP e0 np k p1 f1 t1 c1 := hj ▸ hi2
    exact eM_v C0 hr hlk (k, p1, f1, t1, c1) hB (⟨rfl, hi2⟩) (Nat.le_refl _) (Nat.le_refl _) d_SE_layArcs_81
  · have hj : j < np := (nI_nle' (by omega) (by omega)).mp c_15
    have hxa := hea j hj
    have hxb := heb j hj
    refine lv_aload_n C0.1 C0.2.1 d_SE_layArcs_18 rfl (lv_at hl 0 rfl) ?_
    refine gf_SE_29 C0 hB.1 3 rfl rfl d_SE_layArcs_19 ?_
    refine lv_iload_n C0.1 C0.2.1 d_SE_layArcs_22 rfl (lv_at hl 2 rfl) ?_
    refine ald_z C0 hB.1 15 1 rfl rfl (by omega) (by decide) d_SE_layArcs_23 ?_
    refine lv_if_ne (tgt := 75) C0.1 C0.2.1 d_SE_layArcs_24 (by decide) (fun c_24 => ?_) (fun c_24 => ?_)
    · have c_24 := bI_n0.mp c_24
      refine lv_iinc (v := nI (j + 1)) (lv' := [(2, .int (nI (j + 1))), (0, .ref (a 3)), (1, .int (nI e0))]) C0.1 C0.2.1 d_SE_layArcs_75 hl (k := 2) rfl (inc1 _) (by decide) rfl (fun ls hl => ?_)
      refine lv_goto (tgt := 7) C0.1 C0.2.1 d_SE_layArcs_78 (by decide) ?_
      exact ih_7 ((j + 1), k, p1, f1, t1, c1) (show (j + 1) ≤ np ∧ Arcs kd ii oo ea eb li sT sP e0 (j + 1) k p1 f1 t1 c1 from ⟨by omega, Arcs_shut hi2 c_24⟩) (show np - (j + 1) < np - j from by show np - (j + 1) < np - j; omega) H locs ls hB (lv_sub hl [1, 2, 0] rfl)
    · have c_24 := bI_0.mp c_24
      refine lv_aload_n C0.1 C0.2.1 d_SE_layArcs_27 rfl (lv_at hl 0 rfl) ?_
      refine lv_iload_n C0.1 C0.2.1 d_SE_layArcs_28 rfl (lv_at hl 2 rfl) ?_
      refine lv_aload_n C0.1 C0.2.1 d_SE_layArcs_29 rfl (lv_at hl 0 rfl) ?_
      refine gf_SE_21 C0 hB.1 3 rfl rfl d_SE_layArcs_30 ?_
      refine gf_SE_69 C0 hB.1 2 rfl rfl d_SE_layArcs_33 ?_
      refine lv_iload_n C0.1 C0.2.1 d_SE_layArcs_36 rfl (lv_at hl 2 rfl) ?_
      refine ald_i C0 hB.1 10 0 rfl rfl (by omega) (by decide) d_SE_layArcs_37 ?_
      refine lv_aload_n C0.1 C0.2.1 d_SE_layArcs_38 rfl (lv_at hl 0 rfl) ?_
      refine gf_SE_21 C0 hB.1 3 rfl rfl d_SE_layArcs_39 ?_
      refine gf_SE_76 C0 hB.1 2 rfl rfl d_SE_layArcs_42 ?_
      refine lv_iload_n C0.1 C0.2.1 d_SE_layArcs_45 rfl (lv_at hl 2 rfl) ?_
      refine ald_i C0 hB.1 11 0 rfl rfl (by omega) (by decide) d_SE_layArcs_46 ?_
      refine lv_iload_n C0.1 C0.2.1 d_SE_layArcs_47 rfl (lv_at hl 1 rfl) ?_
      refine cM (As := [.int (nI j), .int (nI (ea j)), .int (nI (eb j)), .int (nI e0)]) (rest := []) C0 (c_SE_layArc j (ea j) (eb j) e0 (by omega) (by omega) (by omega) he0 (by have := hi2.1; omega) hk) (q_SE_108 C0.2.2.2.2.1 rfl rfl ⟨Nat.le_of_ble_eq_true rfl, Nat.le_of_ble_eq_true rfl⟩) (ci := 3) (q0 := 3) rfl rfl rfl hB hl.1 rfl rfl (Nat.le_of_ble_eq_true rfl) d_SE_layArcs_48 ⟨Nat.zero_le _, Nat.zero_le _⟩ (fun v_48 u_48 H locs hp_48 hB => ?_)
      obtain ⟨k1, p2, f2, t2, c2⟩ := u_48
      obtain ⟨rfl, g1⟩ := hp_48
      have hB : wB g classes A s.heap (wW a t n kd em br ii oo np ea eb li rn wa wn sT sP k1 p2 f2 t2 c2 ct rp rt rest L) H locs := hB
      refine W.eq (g2 := F0 m 51 ls []) rfl ?_
      refine lv_aload_n C0.1 C0.2.1 d_SE_layArcs_51 rfl (lv_at hl 0 rfl) ?_
      refine lv_iload_n C0.1 C0.2.1 d_SE_layArcs_52 rfl (lv_at hl 2 rfl) ?_
      refine lv_aload_n C0.1 C0.2.1 d_SE_layArcs_53 rfl (lv_at hl 0 rfl) ?_
      refine gf_SE_21 C0 hB.1 3 rfl rfl d_SE_layArcs_54 ?_
      refine gf_SE_76 C0 hB.1 2 rfl rfl d_SE_layArcs_57 ?_
      refine lv_iload_n C0.1 C0.2.1 d_SE_layArcs_60 rfl (lv_at hl 2 rfl) ?_
      refine ald_i C0 hB.1 11 0 rfl rfl (by omega) (by decide) d_SE_layArcs_61 ?_
      refine lv_aload_n C0.1 C0.2.1 d_SE_layArcs_62 rfl (lv_at hl 0 rfl) ?_
      refine gf_SE_21 C0 hB.1 3 rfl rfl d_SE_layArcs_63 ?_
      refine gf_SE_69 C0 hB.1 2 rfl rfl d_SE_layArcs_66 ?_
      refine lv_iload_n C0.1 C0.2.1 d_SE_layArcs_69 rfl (lv_at hl 2 rfl) ?_
      refine ald_i C0 hB.1 10 0 rfl rfl (by omega) (by decide) d_SE_layArcs_70 ?_
      refine lv_iload_n C0.1 C0.2.1 d_SE_layArcs_71 rfl (lv_at hl 1 rfl) ?_
      refine cM (As := [.int (nI j), .int (nI (eb j)), .int (nI (ea j)), .int (nI e0)]) (rest := []) C0 (c_SE_layArc j (eb j) (ea j) e0 (by omega) (by omega) (by omega) he0 (by have := hi2.1; have := Laid_le g1; omega) hk) (q_SE_108 C0.2.2.2.2.1 rfl rfl ⟨Nat.le_of_ble_eq_true rfl, Nat.le_of_ble_eq_true rfl⟩) (ci := 3) (q0 := 3) rfl rfl rfl hB hl.1 rfl rfl (Nat.le_of_ble_eq_true rfl) d_SE_layArcs_72 ⟨Nat.zero_le _, Nat.zero_le _⟩ (fun v_72 u_72 H locs hp_72 hB => ?_)
      obtain ⟨k2, p3, f3, t3, c3⟩ := u_72
      obtain ⟨rfl, g2⟩ := hp_72
      have hB : wB g classes A s.heap (wW a t n kd em br ii oo np ea eb li rn wa wn sT sP k2 p3 f3 t3 c3 ct rp rt rest L) H locs := hB
      refine W.eq (g2 := F0 m 75 ls []) rfl ?_
      refine lv_iinc (v := nI (j + 1)) (lv' := [(2, .int (nI (j + 1))), (0, .ref (a 3)), (1, .int (nI e0))]) C0.1 C0.2.1 d_SE_layArcs_75 hl (k := 2) rfl (inc1 _) (by decide) rfl (fun ls hl => ?_)
      refine lv_goto (tgt := 7) C0.1 C0.2.1 d_SE_layArcs_78 (by decide) ?_
      exact ih_7 ((j + 1), k2, p3, f3, t3, c3) (show (j + 1) ≤ np ∧ Arcs kd ii oo ea eb li sT sP e0 (j + 1) k2 p3 f3 t3 c3 from ⟨by omega, Arcs_lay hi2 c_24 g1 g2⟩) (show np - (j + 1) < np - j from by show np - (j + 1) < np - j; omega) H locs ls hB (lv_sub hl [1, 2, 0] rfl)
end SEARCH1

section INITM
variable {l : Launch} {g : va_G} {t : Nat → ClassId}
set_option maxHeartbeats 4000000 in
set_option maxRecDepth 100000 in
theorem c_MO_init {X0 : va_W} (o : Nat) : Mt l y_MO_init w_MO_init ({ frames := 1, cells := 18, slots := 4176, locals := 12 }) g classes (tyL t) [.ref o] ((o, .inr (5, [.null, .null, .null, .null, .null, .int 0, .null, .null, .null, .null, .int 0, .null, .null, .null, .null, .int 0, .null, .null, .null, .null, .null])) :: X0) (S := Nat → Nat) (fun v bb => v = none ∧ bb 0 = o) (fun bb => (mW bb t 0 (fun _ => 0) (fun _ => false) (fun _ => false) (fun _ => 0) (fun _ => 0) 0 (fun _ => 0) (fun _ => 0) (fun _ => 0) (fun _ => false) (fun _ => 0) (fun _ => 0) (fun _ => 0) (fun _ => 0) 0 (fun _ => 0) (fun _ => false) (fun _ => false) (fun _ => 0) (fun _ => 0) X0)) 18 4176 := by
  refine Mt.of (cc := b_MO_init) (maxL := 1) (ret := none) (own := R_MO) (by decide) rfl rfl (Nat.le_of_ble_eq_true rfl) ?_
  intro p e s m args below meth c C0 hr hlk hin A hA hB ls hl
  have hl : lv_has ls 1 [(0, .ref o)] := hl
  refine lv_aload_n C0.1 C0.2.1 d_MO_init_0 rfl (lv_at hl 0 rfl) ?_
  refine oi C0 k_MO_1 hl.1 (Nat.le_of_ble_eq_true rfl) (Nat.le_of_ble_eq_true rfl) d_MO_init_1 ?_
  refine lv_aload_n C0.1 C0.2.1 d_MO_init_4 rfl (lv_at hl 0 rfl) ?_
  refine lv_bipush (v := nI 48) C0.1 C0.2.1 d_MO_init_5 (by decide) ?_
  refine anw (atype := .int) (a0 := (48, .inl (fun j => nI ((fun _ => 0) j)))) C0 hB 0 rfl rfl (fun _ h => by cases h) k_arr_int (fun _ => rfl) (by decide) (by decide) (Nat.le_of_ble_eq_true rfl) (Nat.le_of_ble_eq_true rfl) d_MO_init_7 (fun q0 H hB => ?_)
  obtain ⟨X1, eX1⟩ : ∃ z, z = X0 ++ [(q0, .inl (t 0, 48, .inl (fun j => nI ((fun _ => 0) j))))] := ⟨_, rfl⟩
  have hB : wB g classes A s.heap ((o, .inr (5, [.null, .null, .null, .null, .null, .int 0, .null, .null, .null, .null, .int 0, .null, .null, .null, .null, .int 0, .null, .null, .null, .null, .null])) :: (X0 ++ [(q0, .inl (t 0, 48, .inl (fun j => nI ((fun _ => 0) j))))])) _ _ := hB
  rw [← eX1] at hB
  have hB : wB g classes A s.heap (((o, .inr (5, [.null, .null, .null, .null, .null, .int 0, .null, .null, .null, .null, .int 0, .null, .null, .null, .null, .int 0, .null, .null, .null, .null, .null])) :: X1)) _ _ := hB
  refine pf_MO_9 (w' := ((o, .inr (5, [.ref q0, .null, .null, .null, .null, .int 0, .null, .null, .null, .null, .int 0, .null, .null, .null, .null, .int 0, .null, .null, .null, .null, .null])) :: X1)) C0 hin hB 0 rfl (Nat.le_of_ble_eq_true rfl) rfl rfl rfl d_MO_init_9 (fun H locs hB => ?_)
  refine lv_aload_n C0.1 C0.2.1 d_MO_init_12 rfl (lv_at hl 0 rfl) ?_
  refine lv_bipush (v := nI 48) C0.1 C0.2.1 d_MO_init_13 (by decide) ?_
  refine anw (atype := .boolean) (a0 := (48, .inl (fun j => bI ((fun _ => false) j)))) C0 hB 1 rfl rfl (fun _ h => by cases h) k_arr_boolean (fun _ => rfl) (by decide) (by decide) (Nat.le_of_ble_eq_true rfl) (Nat.le_of_ble_eq_true rfl) d_MO_init_15 (fun q1 H hB => ?_)
  obtain ⟨X2, eX2⟩ : ∃ z, z = X1 ++ [(q1, .inl (t 1, 48, .inl (fun j => bI ((fun _ => false) j))))] := ⟨_, rfl⟩
  have hB : wB g classes A s.heap ((o, .inr (5, [.ref q0, .null, .null, .null, .null, .int 0, .null, .null, .null, .null, .int 0, .null, .null, .null, .null, .int 0, .null, .null, .null, .null, .null])) :: (X1 ++ [(q1, .inl (t 1, 48, .inl (fun j => bI ((fun _ => false) j))))])) _ _ := hB
  rw [← eX2] at hB
  have hB : wB g classes A s.heap (((o, .inr (5, [.ref q0, .null, .null, .null, .null, .int 0, .null, .null, .null, .null, .int 0, .null, .null, .null, .null, .int 0, .null, .null, .null, .null, .null])) :: X2)) _ _ := hB
  refine pf_MO_13 (w' := ((o, .inr (5, [.ref q0, .ref q1, .null, .null, .null, .int 0, .null, .null, .null, .null, .int 0, .null, .null, .null, .null, .int 0, .null, .null, .null, .null, .null])) :: X2)) C0 hin hB 0 rfl (Nat.le_of_ble_eq_true rfl) rfl rfl rfl d_MO_init_17 (fun H locs hB => ?_)
  refine lv_aload_n C0.1 C0.2.1 d_MO_init_20 rfl (lv_at hl 0 rfl) ?_
  refine lv_bipush (v := nI 48) C0.1 C0.2.1 d_MO_init_21 (by decide) ?_
  refine anw (atype := .boolean) (a0 := (48, .inl (fun j => bI ((fun _ => false) j)))) C0 hB 1 rfl rfl (fun _ h => by cases h) k_arr_boolean (fun _ => rfl) (by decide) (by decide) (Nat.le_of_ble_eq_true rfl) (Nat.le_of_ble_eq_true rfl) d_MO_init_23 (fun q2 H hB => ?_)
  obtain ⟨X3, eX3⟩ : ∃ z, z = X2 ++ [(q2, .inl (t 1, 48, .inl (fun j => bI ((fun _ => false) j))))] := ⟨_, rfl⟩
  have hB : wB g classes A s.heap ((o, .inr (5, [.ref q0, .ref q1, .null, .null, .null, .int 0, .null, .null, .null, .null, .int 0, .null, .null, .null, .null, .int 0, .null, .null, .null, .null, .null])) :: (X2 ++ [(q2, .inl (t 1, 48, .inl (fun j => bI ((fun _ => false) j))))])) _ _ := hB
  rw [← eX3] at hB
  have hB : wB g classes A s.heap (((o, .inr (5, [.ref q0, .ref q1, .null, .null, .null, .int 0, .null, .null, .null, .null, .int 0, .null, .null, .null, .null, .int 0, .null, .null, .null, .null, .null])) :: X3)) _ _ := hB
  refine pf_MO_17 (w' := ((o, .inr (5, [.ref q0, .ref q1, .ref q2, .null, .null, .int 0, .null, .null, .null, .null, .int 0, .null, .null, .null, .null, .int 0, .null, .null, .null, .null, .null])) :: X3)) C0 hin hB 0 rfl (Nat.le_of_ble_eq_true rfl) rfl rfl rfl d_MO_init_25 (fun H locs hB => ?_)
  refine lv_aload_n C0.1 C0.2.1 d_MO_init_28 rfl (lv_at hl 0 rfl) ?_
  refine lv_bipush (v := nI 48) C0.1 C0.2.1 d_MO_init_29 (by decide) ?_
  refine anw (atype := .int) (a0 := (48, .inl (fun _ => 0))) C0 hB 0 rfl rfl (fun _ h => by cases h) k_arr_int (fun _ => rfl) (by decide) (by decide) (Nat.le_of_ble_eq_true rfl) (Nat.le_of_ble_eq_true rfl) d_MO_init_31 (fun q3 H hB => ?_)
  obtain ⟨X4, eX4⟩ : ∃ z, z = X3 ++ [(q3, .inl (t 0, 48, .inl (fun _ => 0)))] := ⟨_, rfl⟩
  have hB : wB g classes A s.heap ((o, .inr (5, [.ref q0, .ref q1, .ref q2, .null, .null, .int 0, .null, .null, .null, .null, .int 0, .null, .null, .null, .null, .int 0, .null, .null, .null, .null, .null])) :: (X3 ++ [(q3, .inl (t 0, 48, .inl (fun _ => 0)))])) _ _ := hB
  rw [← eX4] at hB
  have hB : wB g classes A s.heap (((o, .inr (5, [.ref q0, .ref q1, .ref q2, .null, .null, .int 0, .null, .null, .null, .null, .int 0, .null, .null, .null, .null, .int 0, .null, .null, .null, .null, .null])) :: X4)) _ _ := hB
  refine pf_MO_20 (w' := ((o, .inr (5, [.ref q0, .ref q1, .ref q2, .ref q3, .null, .int 0, .null, .null, .null, .null, .int 0, .null, .null, .null, .null, .int 0, .null, .null, .null, .null, .null])) :: X4)) C0 hin hB 0 rfl (Nat.le_of_ble_eq_true rfl) rfl rfl rfl d_MO_init_33 (fun H locs hB => ?_)
  refine lv_aload_n C0.1 C0.2.1 d_MO_init_36 rfl (lv_at hl 0 rfl) ?_
  refine lv_bipush (v := nI 48) C0.1 C0.2.1 d_MO_init_37 (by decide) ?_
  refine anw (atype := .int) (a0 := (48, .inl (fun _ => 0))) C0 hB 0 rfl rfl (fun _ h => by cases h) k_arr_int (fun _ => rfl) (by decide) (by decide) (Nat.le_of_ble_eq_true rfl) (Nat.le_of_ble_eq_true rfl) d_MO_init_39 (fun q4 H hB => ?_)
  obtain ⟨X5, eX5⟩ : ∃ z, z = X4 ++ [(q4, .inl (t 0, 48, .inl (fun _ => 0)))] := ⟨_, rfl⟩
  have hB : wB g classes A s.heap ((o, .inr (5, [.ref q0, .ref q1, .ref q2, .ref q3, .null, .int 0, .null, .null, .null, .null, .int 0, .null, .null, .null, .null, .int 0, .null, .null, .null, .null, .null])) :: (X4 ++ [(q4, .inl (t 0, 48, .inl (fun _ => 0)))])) _ _ := hB
  rw [← eX5] at hB
  have hB : wB g classes A s.heap (((o, .inr (5, [.ref q0, .ref q1, .ref q2, .ref q3, .null, .int 0, .null, .null, .null, .null, .int 0, .null, .null, .null, .null, .int 0, .null, .null, .null, .null, .null])) :: X5)) _ _ := hB
  refine pf_MO_23 (w' := ((o, .inr (5, [.ref q0, .ref q1, .ref q2, .ref q3, .ref q4, .int 0, .null, .null, .null, .null, .int 0, .null, .null, .null, .null, .int 0, .null, .null, .null, .null, .null])) :: X5)) C0 hin hB 0 rfl (Nat.le_of_ble_eq_true rfl) rfl rfl rfl d_MO_init_41 (fun H locs hB => ?_)
  refine lv_aload_n C0.1 C0.2.1 d_MO_init_44 rfl (lv_at hl 0 rfl) ?_
  refine lv_bipush (v := nI 96) C0.1 C0.2.1 d_MO_init_45 (by decide) ?_
  refine anw (atype := .int) (a0 := (96, .inl (fun j => nI ((fun _ => 0) j)))) C0 hB 0 rfl rfl (fun _ h => by cases h) k_arr_int (fun _ => rfl) (by decide) (by decide) (Nat.le_of_ble_eq_true rfl) (Nat.le_of_ble_eq_true rfl) d_MO_init_47 (fun q5 H hB => ?_)
  obtain ⟨X6, eX6⟩ : ∃ z, z = X5 ++ [(q5, .inl (t 0, 96, .inl (fun j => nI ((fun _ => 0) j))))] := ⟨_, rfl⟩
  have hB : wB g classes A s.heap ((o, .inr (5, [.ref q0, .ref q1, .ref q2, .ref q3, .ref q4, .int 0, .null, .null, .null, .null, .int 0, .null, .null, .null, .null, .int 0, .null, .null, .null, .null, .null])) :: (X5 ++ [(q5, .inl (t 0, 96, .inl (fun j => nI ((fun _ => 0) j))))])) _ _ := hB
  rw [← eX6] at hB
  have hB : wB g classes A s.heap (((o, .inr (5, [.ref q0, .ref q1, .ref q2, .ref q3, .ref q4, .int 0, .null, .null, .null, .null, .int 0, .null, .null, .null, .null, .int 0, .null, .null, .null, .null, .null])) :: X6)) _ _ := hB
  refine pf_MO_26 (w' := ((o, .inr (5, [.ref q0, .ref q1, .ref q2, .ref q3, .ref q4, .int 0, .ref q5, .null, .null, .null, .int 0, .null, .null, .null, .null, .int 0, .null, .null, .null, .null, .null])) :: X6)) C0 hin hB 0 rfl (Nat.le_of_ble_eq_true rfl) rfl rfl rfl d_MO_init_49 (fun H locs hB => ?_)
  refine lv_aload_n C0.1 C0.2.1 d_MO_init_52 rfl (lv_at hl 0 rfl) ?_
  refine lv_bipush (v := nI 96) C0.1 C0.2.1 d_MO_init_53 (by decide) ?_
  refine anw (atype := .int) (a0 := (96, .inl (fun j => nI ((fun _ => 0) j)))) C0 hB 0 rfl rfl (fun _ h => by cases h) k_arr_int (fun _ => rfl) (by decide) (by decide) (Nat.le_of_ble_eq_true rfl) (Nat.le_of_ble_eq_true rfl) d_MO_init_55 (fun q6 H hB => ?_)
  obtain ⟨X7, eX7⟩ : ∃ z, z = X6 ++ [(q6, .inl (t 0, 96, .inl (fun j => nI ((fun _ => 0) j))))] := ⟨_, rfl⟩
  have hB : wB g classes A s.heap ((o, .inr (5, [.ref q0, .ref q1, .ref q2, .ref q3, .ref q4, .int 0, .ref q5, .null, .null, .null, .int 0, .null, .null, .null, .null, .int 0, .null, .null, .null, .null, .null])) :: (X6 ++ [(q6, .inl (t 0, 96, .inl (fun j => nI ((fun _ => 0) j))))])) _ _ := hB
  rw [← eX7] at hB
  have hB : wB g classes A s.heap (((o, .inr (5, [.ref q0, .ref q1, .ref q2, .ref q3, .ref q4, .int 0, .ref q5, .null, .null, .null, .int 0, .null, .null, .null, .null, .int 0, .null, .null, .null, .null, .null])) :: X7)) _ _ := hB
  refine pf_MO_29 (w' := ((o, .inr (5, [.ref q0, .ref q1, .ref q2, .ref q3, .ref q4, .int 0, .ref q5, .ref q6, .null, .null, .int 0, .null, .null, .null, .null, .int 0, .null, .null, .null, .null, .null])) :: X7)) C0 hin hB 0 rfl (Nat.le_of_ble_eq_true rfl) rfl rfl rfl d_MO_init_57 (fun H locs hB => ?_)
  refine lv_aload_n C0.1 C0.2.1 d_MO_init_60 rfl (lv_at hl 0 rfl) ?_
  refine lv_bipush (v := nI 96) C0.1 C0.2.1 d_MO_init_61 (by decide) ?_
  refine anw (atype := .long) (a0 := (96, .inr (.inl (fun j => lN ((fun _ => 0) j))))) C0 hB 2 rfl rfl (fun _ h => by cases h) k_arr_long (fun _ => rfl) (by decide) (by decide) (Nat.le_of_ble_eq_true rfl) (Nat.le_of_ble_eq_true rfl) d_MO_init_63 (fun q7 H hB => ?_)
  obtain ⟨X8, eX8⟩ : ∃ z, z = X7 ++ [(q7, .inl (t 2, 96, .inr (.inl (fun j => lN ((fun _ => 0) j)))))] := ⟨_, rfl⟩
  have hB : wB g classes A s.heap ((o, .inr (5, [.ref q0, .ref q1, .ref q2, .ref q3, .ref q4, .int 0, .ref q5, .ref q6, .null, .null, .int 0, .null, .null, .null, .null, .int 0, .null, .null, .null, .null, .null])) :: (X7 ++ [(q7, .inl (t 2, 96, .inr (.inl (fun j => lN ((fun _ => 0) j)))))])) _ _ := hB
  rw [← eX8] at hB
  have hB : wB g classes A s.heap (((o, .inr (5, [.ref q0, .ref q1, .ref q2, .ref q3, .ref q4, .int 0, .ref q5, .ref q6, .null, .null, .int 0, .null, .null, .null, .null, .int 0, .null, .null, .null, .null, .null])) :: X8)) _ _ := hB
  refine pf_MO_32 (w' := ((o, .inr (5, [.ref q0, .ref q1, .ref q2, .ref q3, .ref q4, .int 0, .ref q5, .ref q6, .ref q7, .null, .int 0, .null, .null, .null, .null, .int 0, .null, .null, .null, .null, .null])) :: X8)) C0 hin hB 0 rfl (Nat.le_of_ble_eq_true rfl) rfl rfl rfl d_MO_init_65 (fun H locs hB => ?_)
  refine lv_aload_n C0.1 C0.2.1 d_MO_init_68 rfl (lv_at hl 0 rfl) ?_
  refine lv_bipush (v := nI 96) C0.1 C0.2.1 d_MO_init_69 (by decide) ?_
  refine anw (atype := .boolean) (a0 := (96, .inl (fun j => bI ((fun _ => false) j)))) C0 hB 1 rfl rfl (fun _ h => by cases h) k_arr_boolean (fun _ => rfl) (by decide) (by decide) (Nat.le_of_ble_eq_true rfl) (Nat.le_of_ble_eq_true rfl) d_MO_init_71 (fun q8 H hB => ?_)
  obtain ⟨X9, eX9⟩ : ∃ z, z = X8 ++ [(q8, .inl (t 1, 96, .inl (fun j => bI ((fun _ => false) j))))] := ⟨_, rfl⟩
  have hB : wB g classes A s.heap ((o, .inr (5, [.ref q0, .ref q1, .ref q2, .ref q3, .ref q4, .int 0, .ref q5, .ref q6, .ref q7, .null, .int 0, .null, .null, .null, .null, .int 0, .null, .null, .null, .null, .null])) :: (X8 ++ [(q8, .inl (t 1, 96, .inl (fun j => bI ((fun _ => false) j))))])) _ _ := hB
  rw [← eX9] at hB
  have hB : wB g classes A s.heap (((o, .inr (5, [.ref q0, .ref q1, .ref q2, .ref q3, .ref q4, .int 0, .ref q5, .ref q6, .ref q7, .null, .int 0, .null, .null, .null, .null, .int 0, .null, .null, .null, .null, .null])) :: X9)) _ _ := hB
  refine pf_MO_36 (w' := ((o, .inr (5, [.ref q0, .ref q1, .ref q2, .ref q3, .ref q4, .int 0, .ref q5, .ref q6, .ref q7, .ref q8, .int 0, .null, .null, .null, .null, .int 0, .null, .null, .null, .null, .null])) :: X9)) C0 hin hB 0 rfl (Nat.le_of_ble_eq_true rfl) rfl rfl rfl d_MO_init_73 (fun H locs hB => ?_)
  refine lv_aload_n C0.1 C0.2.1 d_MO_init_76 rfl (lv_at hl 0 rfl) ?_
  refine lv_sipush (v := nI 3072) C0.1 C0.2.1 d_MO_init_77 (by decide) ?_
  refine anw (atype := .int) (a0 := (3072, .inl (fun j => nI ((fun _ => 0) j)))) C0 hB 0 rfl rfl (fun _ h => by cases h) k_arr_int (fun _ => rfl) (by decide) (by decide) (Nat.le_of_ble_eq_true rfl) (Nat.le_of_ble_eq_true rfl) d_MO_init_80 (fun q9 H hB => ?_)
  obtain ⟨X10, eX10⟩ : ∃ z, z = X9 ++ [(q9, .inl (t 0, 3072, .inl (fun j => nI ((fun _ => 0) j))))] := ⟨_, rfl⟩
  have hB : wB g classes A s.heap ((o, .inr (5, [.ref q0, .ref q1, .ref q2, .ref q3, .ref q4, .int 0, .ref q5, .ref q6, .ref q7, .ref q8, .int 0, .null, .null, .null, .null, .int 0, .null, .null, .null, .null, .null])) :: (X9 ++ [(q9, .inl (t 0, 3072, .inl (fun j => nI ((fun _ => 0) j))))])) _ _ := hB
  rw [← eX10] at hB
  have hB : wB g classes A s.heap (((o, .inr (5, [.ref q0, .ref q1, .ref q2, .ref q3, .ref q4, .int 0, .ref q5, .ref q6, .ref q7, .ref q8, .int 0, .null, .null, .null, .null, .int 0, .null, .null, .null, .null, .null])) :: X10)) _ _ := hB
  refine pf_MO_39 (w' := ((o, .inr (5, [.ref q0, .ref q1, .ref q2, .ref q3, .ref q4, .int 0, .ref q5, .ref q6, .ref q7, .ref q8, .int 0, .ref q9, .null, .null, .null, .int 0, .null, .null, .null, .null, .null])) :: X10)) C0 hin hB 0 rfl (Nat.le_of_ble_eq_true rfl) rfl rfl rfl d_MO_init_82 (fun H locs hB => ?_)
  refine lv_aload_n C0.1 C0.2.1 d_MO_init_85 rfl (lv_at hl 0 rfl) ?_
  refine lv_bipush (v := nI 64) C0.1 C0.2.1 d_MO_init_86 (by decide) ?_
  refine anw (atype := .int) (a0 := (64, .inl (fun j => nI ((fun _ => 0) j)))) C0 hB 0 rfl rfl (fun _ h => by cases h) k_arr_int (fun _ => rfl) (by decide) (by decide) (Nat.le_of_ble_eq_true rfl) (Nat.le_of_ble_eq_true rfl) d_MO_init_88 (fun q10 H hB => ?_)
  obtain ⟨X11, eX11⟩ : ∃ z, z = X10 ++ [(q10, .inl (t 0, 64, .inl (fun j => nI ((fun _ => 0) j))))] := ⟨_, rfl⟩
  have hB : wB g classes A s.heap ((o, .inr (5, [.ref q0, .ref q1, .ref q2, .ref q3, .ref q4, .int 0, .ref q5, .ref q6, .ref q7, .ref q8, .int 0, .ref q9, .null, .null, .null, .int 0, .null, .null, .null, .null, .null])) :: (X10 ++ [(q10, .inl (t 0, 64, .inl (fun j => nI ((fun _ => 0) j))))])) _ _ := hB
  rw [← eX11] at hB
  have hB : wB g classes A s.heap (((o, .inr (5, [.ref q0, .ref q1, .ref q2, .ref q3, .ref q4, .int 0, .ref q5, .ref q6, .ref q7, .ref q8, .int 0, .ref q9, .null, .null, .null, .int 0, .null, .null, .null, .null, .null])) :: X11)) _ _ := hB
  refine pf_MO_42 (w' := ((o, .inr (5, [.ref q0, .ref q1, .ref q2, .ref q3, .ref q4, .int 0, .ref q5, .ref q6, .ref q7, .ref q8, .int 0, .ref q9, .ref q10, .null, .null, .int 0, .null, .null, .null, .null, .null])) :: X11)) C0 hin hB 0 rfl (Nat.le_of_ble_eq_true rfl) rfl rfl rfl d_MO_init_90 (fun H locs hB => ?_)
  refine lv_aload_n C0.1 C0.2.1 d_MO_init_93 rfl (lv_at hl 0 rfl) ?_
  refine lv_bipush (v := nI 64) C0.1 C0.2.1 d_MO_init_94 (by decide) ?_
  refine anw (atype := .int) (a0 := (64, .inl (fun j => nI ((fun _ => 0) j)))) C0 hB 0 rfl rfl (fun _ h => by cases h) k_arr_int (fun _ => rfl) (by decide) (by decide) (Nat.le_of_ble_eq_true rfl) (Nat.le_of_ble_eq_true rfl) d_MO_init_96 (fun q11 H hB => ?_)
  obtain ⟨X12, eX12⟩ : ∃ z, z = X11 ++ [(q11, .inl (t 0, 64, .inl (fun j => nI ((fun _ => 0) j))))] := ⟨_, rfl⟩
  have hB : wB g classes A s.heap ((o, .inr (5, [.ref q0, .ref q1, .ref q2, .ref q3, .ref q4, .int 0, .ref q5, .ref q6, .ref q7, .ref q8, .int 0, .ref q9, .ref q10, .null, .null, .int 0, .null, .null, .null, .null, .null])) :: (X11 ++ [(q11, .inl (t 0, 64, .inl (fun j => nI ((fun _ => 0) j))))])) _ _ := hB
  rw [← eX12] at hB
  have hB : wB g classes A s.heap (((o, .inr (5, [.ref q0, .ref q1, .ref q2, .ref q3, .ref q4, .int 0, .ref q5, .ref q6, .ref q7, .ref q8, .int 0, .ref q9, .ref q10, .null, .null, .int 0, .null, .null, .null, .null, .null])) :: X12)) _ _ := hB
  refine pf_MO_45 (w' := ((o, .inr (5, [.ref q0, .ref q1, .ref q2, .ref q3, .ref q4, .int 0, .ref q5, .ref q6, .ref q7, .ref q8, .int 0, .ref q9, .ref q10, .ref q11, .null, .int 0, .null, .null, .null, .null, .null])) :: X12)) C0 hin hB 0 rfl (Nat.le_of_ble_eq_true rfl) rfl rfl rfl d_MO_init_98 (fun H locs hB => ?_)
  refine lv_aload_n C0.1 C0.2.1 d_MO_init_101 rfl (lv_at hl 0 rfl) ?_
  refine lv_bipush (v := nI 64) C0.1 C0.2.1 d_MO_init_102 (by decide) ?_
  refine anw (atype := .int) (a0 := (64, .inl (fun j => nI ((fun _ => 0) j)))) C0 hB 0 rfl rfl (fun _ h => by cases h) k_arr_int (fun _ => rfl) (by decide) (by decide) (Nat.le_of_ble_eq_true rfl) (Nat.le_of_ble_eq_true rfl) d_MO_init_104 (fun q12 H hB => ?_)
  obtain ⟨X13, eX13⟩ : ∃ z, z = X12 ++ [(q12, .inl (t 0, 64, .inl (fun j => nI ((fun _ => 0) j))))] := ⟨_, rfl⟩
  have hB : wB g classes A s.heap ((o, .inr (5, [.ref q0, .ref q1, .ref q2, .ref q3, .ref q4, .int 0, .ref q5, .ref q6, .ref q7, .ref q8, .int 0, .ref q9, .ref q10, .ref q11, .null, .int 0, .null, .null, .null, .null, .null])) :: (X12 ++ [(q12, .inl (t 0, 64, .inl (fun j => nI ((fun _ => 0) j))))])) _ _ := hB
  rw [← eX13] at hB
  have hB : wB g classes A s.heap (((o, .inr (5, [.ref q0, .ref q1, .ref q2, .ref q3, .ref q4, .int 0, .ref q5, .ref q6, .ref q7, .ref q8, .int 0, .ref q9, .ref q10, .ref q11, .null, .int 0, .null, .null, .null, .null, .null])) :: X13)) _ _ := hB
  refine pf_MO_48 (w' := ((o, .inr (5, [.ref q0, .ref q1, .ref q2, .ref q3, .ref q4, .int 0, .ref q5, .ref q6, .ref q7, .ref q8, .int 0, .ref q9, .ref q10, .ref q11, .ref q12, .int 0, .null, .null, .null, .null, .null])) :: X13)) C0 hin hB 0 rfl (Nat.le_of_ble_eq_true rfl) rfl rfl rfl d_MO_init_106 (fun H locs hB => ?_)
  refine lv_aload_n C0.1 C0.2.1 d_MO_init_109 rfl (lv_at hl 0 rfl) ?_
  refine lv_bipush (v := nI 48) C0.1 C0.2.1 d_MO_init_110 (by decide) ?_
  refine anw (atype := .long) (a0 := (48, .inr (.inl (fun j => lN ((fun _ => 0) j))))) C0 hB 2 rfl rfl (fun _ h => by cases h) k_arr_long (fun _ => rfl) (by decide) (by decide) (Nat.le_of_ble_eq_true rfl) (Nat.le_of_ble_eq_true rfl) d_MO_init_112 (fun q13 H hB => ?_)
  obtain ⟨X14, eX14⟩ : ∃ z, z = X13 ++ [(q13, .inl (t 2, 48, .inr (.inl (fun j => lN ((fun _ => 0) j)))))] := ⟨_, rfl⟩
  have hB : wB g classes A s.heap ((o, .inr (5, [.ref q0, .ref q1, .ref q2, .ref q3, .ref q4, .int 0, .ref q5, .ref q6, .ref q7, .ref q8, .int 0, .ref q9, .ref q10, .ref q11, .ref q12, .int 0, .null, .null, .null, .null, .null])) :: (X13 ++ [(q13, .inl (t 2, 48, .inr (.inl (fun j => lN ((fun _ => 0) j)))))])) _ _ := hB
  rw [← eX14] at hB
  have hB : wB g classes A s.heap (((o, .inr (5, [.ref q0, .ref q1, .ref q2, .ref q3, .ref q4, .int 0, .ref q5, .ref q6, .ref q7, .ref q8, .int 0, .ref q9, .ref q10, .ref q11, .ref q12, .int 0, .null, .null, .null, .null, .null])) :: X14)) _ _ := hB
  refine pf_MO_51 (w' := ((o, .inr (5, [.ref q0, .ref q1, .ref q2, .ref q3, .ref q4, .int 0, .ref q5, .ref q6, .ref q7, .ref q8, .int 0, .ref q9, .ref q10, .ref q11, .ref q12, .int 0, .ref q13, .null, .null, .null, .null])) :: X14)) C0 hin hB 0 rfl (Nat.le_of_ble_eq_true rfl) rfl rfl rfl d_MO_init_114 (fun H locs hB => ?_)
  refine lv_aload_n C0.1 C0.2.1 d_MO_init_117 rfl (lv_at hl 0 rfl) ?_
  refine lv_bipush (v := nI 48) C0.1 C0.2.1 d_MO_init_118 (by decide) ?_
  refine anw (atype := .boolean) (a0 := (48, .inl (fun j => bI ((fun _ => false) j)))) C0 hB 1 rfl rfl (fun _ h => by cases h) k_arr_boolean (fun _ => rfl) (by decide) (by decide) (Nat.le_of_ble_eq_true rfl) (Nat.le_of_ble_eq_true rfl) d_MO_init_120 (fun q14 H hB => ?_)
  obtain ⟨X15, eX15⟩ : ∃ z, z = X14 ++ [(q14, .inl (t 1, 48, .inl (fun j => bI ((fun _ => false) j))))] := ⟨_, rfl⟩
  have hB : wB g classes A s.heap ((o, .inr (5, [.ref q0, .ref q1, .ref q2, .ref q3, .ref q4, .int 0, .ref q5, .ref q6, .ref q7, .ref q8, .int 0, .ref q9, .ref q10, .ref q11, .ref q12, .int 0, .ref q13, .null, .null, .null, .null])) :: (X14 ++ [(q14, .inl (t 1, 48, .inl (fun j => bI ((fun _ => false) j))))])) _ _ := hB
  rw [← eX15] at hB
  have hB : wB g classes A s.heap (((o, .inr (5, [.ref q0, .ref q1, .ref q2, .ref q3, .ref q4, .int 0, .ref q5, .ref q6, .ref q7, .ref q8, .int 0, .ref q9, .ref q10, .ref q11, .ref q12, .int 0, .ref q13, .null, .null, .null, .null])) :: X15)) _ _ := hB
  refine pf_MO_54 (w' := ((o, .inr (5, [.ref q0, .ref q1, .ref q2, .ref q3, .ref q4, .int 0, .ref q5, .ref q6, .ref q7, .ref q8, .int 0, .ref q9, .ref q10, .ref q11, .ref q12, .int 0, .ref q13, .ref q14, .null, .null, .null])) :: X15)) C0 hin hB 0 rfl (Nat.le_of_ble_eq_true rfl) rfl rfl rfl d_MO_init_122 (fun H locs hB => ?_)
  refine lv_aload_n C0.1 C0.2.1 d_MO_init_125 rfl (lv_at hl 0 rfl) ?_
  refine lv_bipush (v := nI 96) C0.1 C0.2.1 d_MO_init_126 (by decide) ?_
  refine anw (atype := .boolean) (a0 := (96, .inl (fun j => bI ((fun _ => false) j)))) C0 hB 1 rfl rfl (fun _ h => by cases h) k_arr_boolean (fun _ => rfl) (by decide) (by decide) (Nat.le_of_ble_eq_true rfl) (Nat.le_of_ble_eq_true rfl) d_MO_init_128 (fun q15 H hB => ?_)
  obtain ⟨X16, eX16⟩ : ∃ z, z = X15 ++ [(q15, .inl (t 1, 96, .inl (fun j => bI ((fun _ => false) j))))] := ⟨_, rfl⟩
  have hB : wB g classes A s.heap ((o, .inr (5, [.ref q0, .ref q1, .ref q2, .ref q3, .ref q4, .int 0, .ref q5, .ref q6, .ref q7, .ref q8, .int 0, .ref q9, .ref q10, .ref q11, .ref q12, .int 0, .ref q13, .ref q14, .null, .null, .null])) :: (X15 ++ [(q15, .inl (t 1, 96, .inl (fun j => bI ((fun _ => false) j))))])) _ _ := hB
  rw [← eX16] at hB
  have hB : wB g classes A s.heap (((o, .inr (5, [.ref q0, .ref q1, .ref q2, .ref q3, .ref q4, .int 0, .ref q5, .ref q6, .ref q7, .ref q8, .int 0, .ref q9, .ref q10, .ref q11, .ref q12, .int 0, .ref q13, .ref q14, .null, .null, .null])) :: X16)) _ _ := hB
  refine pf_MO_57 (w' := ((o, .inr (5, [.ref q0, .ref q1, .ref q2, .ref q3, .ref q4, .int 0, .ref q5, .ref q6, .ref q7, .ref q8, .int 0, .ref q9, .ref q10, .ref q11, .ref q12, .int 0, .ref q13, .ref q14, .ref q15, .null, .null])) :: X16)) C0 hin hB 0 rfl (Nat.le_of_ble_eq_true rfl) rfl rfl rfl d_MO_init_130 (fun H locs hB => ?_)
  refine lv_aload_n C0.1 C0.2.1 d_MO_init_133 rfl (lv_at hl 0 rfl) ?_
  refine lv_bipush (v := nI 48) C0.1 C0.2.1 d_MO_init_134 (by decide) ?_
  refine anw (atype := .int) (a0 := (48, .inl (fun j => nI ((fun _ => 0) j)))) C0 hB 0 rfl rfl (fun _ h => by cases h) k_arr_int (fun _ => rfl) (by decide) (by decide) (Nat.le_of_ble_eq_true rfl) (Nat.le_of_ble_eq_true rfl) d_MO_init_136 (fun q16 H hB => ?_)
  obtain ⟨X17, eX17⟩ : ∃ z, z = X16 ++ [(q16, .inl (t 0, 48, .inl (fun j => nI ((fun _ => 0) j))))] := ⟨_, rfl⟩
  have hB : wB g classes A s.heap ((o, .inr (5, [.ref q0, .ref q1, .ref q2, .ref q3, .ref q4, .int 0, .ref q5, .ref q6, .ref q7, .ref q8, .int 0, .ref q9, .ref q10, .ref q11, .ref q12, .int 0, .ref q13, .ref q14, .ref q15, .null, .null])) :: (X16 ++ [(q16, .inl (t 0, 48, .inl (fun j => nI ((fun _ => 0) j))))])) _ _ := hB
  rw [← eX17] at hB
  have hB : wB g classes A s.heap (((o, .inr (5, [.ref q0, .ref q1, .ref q2, .ref q3, .ref q4, .int 0, .ref q5, .ref q6, .ref q7, .ref q8, .int 0, .ref q9, .ref q10, .ref q11, .ref q12, .int 0, .ref q13, .ref q14, .ref q15, .null, .null])) :: X17)) _ _ := hB
  refine pf_MO_60 (w' := ((o, .inr (5, [.ref q0, .ref q1, .ref q2, .ref q3, .ref q4, .int 0, .ref q5, .ref q6, .ref q7, .ref q8, .int 0, .ref q9, .ref q10, .ref q11, .ref q12, .int 0, .ref q13, .ref q14, .ref q15, .ref q16, .null])) :: X17)) C0 hin hB 0 rfl (Nat.le_of_ble_eq_true rfl) rfl rfl rfl d_MO_init_138 (fun H locs hB => ?_)
  refine lv_aload_n C0.1 C0.2.1 d_MO_init_141 rfl (lv_at hl 0 rfl) ?_
  refine lv_bipush (v := nI 48) C0.1 C0.2.1 d_MO_init_142 (by decide) ?_
  refine anw (atype := .int) (a0 := (48, .inl (fun j => nI ((fun _ => 0) j)))) C0 hB 0 rfl rfl (fun _ h => by cases h) k_arr_int (fun _ => rfl) (by decide) (by decide) (Nat.le_of_ble_eq_true rfl) (Nat.le_of_ble_eq_true rfl) d_MO_init_144 (fun q17 H hB => ?_)
  obtain ⟨X18, eX18⟩ : ∃ z, z = X17 ++ [(q17, .inl (t 0, 48, .inl (fun j => nI ((fun _ => 0) j))))] := ⟨_, rfl⟩
  have hB : wB g classes A s.heap ((o, .inr (5, [.ref q0, .ref q1, .ref q2, .ref q3, .ref q4, .int 0, .ref q5, .ref q6, .ref q7, .ref q8, .int 0, .ref q9, .ref q10, .ref q11, .ref q12, .int 0, .ref q13, .ref q14, .ref q15, .ref q16, .null])) :: (X17 ++ [(q17, .inl (t 0, 48, .inl (fun j => nI ((fun _ => 0) j))))])) _ _ := hB
  rw [← eX18] at hB
  have hB : wB g classes A s.heap (((o, .inr (5, [.ref q0, .ref q1, .ref q2, .ref q3, .ref q4, .int 0, .ref q5, .ref q6, .ref q7, .ref q8, .int 0, .ref q9, .ref q10, .ref q11, .ref q12, .int 0, .ref q13, .ref q14, .ref q15, .ref q16, .null])) :: X18)) _ _ := hB
  refine pf_MO_63 (w' := ((o, .inr (5, [.ref q0, .ref q1, .ref q2, .ref q3, .ref q4, .int 0, .ref q5, .ref q6, .ref q7, .ref q8, .int 0, .ref q9, .ref q10, .ref q11, .ref q12, .int 0, .ref q13, .ref q14, .ref q15, .ref q16, .ref q17])) :: X18)) C0 hin hB 0 rfl (Nat.le_of_ble_eq_true rfl) rfl rfl rfl d_MO_init_146 (fun H locs hB => ?_)
  have e : (([(o, .inr (5, [.ref q0, .ref q1, .ref q2, .ref q3, .ref q4, .int 0, .ref q5, .ref q6, .ref q7, .ref q8, .int 0, .ref q9, .ref q10, .ref q11, .ref q12, .int 0, .ref q13, .ref q14, .ref q15, .ref q16, .ref q17]))] ++ X0) ++ [(q0, .inl (t 0, 48, .inl (fun j => nI ((fun _ => 0) j)))), (q1, .inl (t 1, 48, .inl (fun j => bI ((fun _ => false) j)))), (q2, .inl (t 1, 48, .inl (fun j => bI ((fun _ => false) j)))), (q3, .inl (t 0, 48, .inl (fun _ => 0))), (q4, .inl (t 0, 48, .inl (fun _ => 0))), (q5, .inl (t 0, 96, .inl (fun j => nI ((fun _ => 0) j)))), (q6, .inl (t 0, 96, .inl (fun j => nI ((fun _ => 0) j)))), (q7, .inl (t 2, 96, .inr (.inl (fun j => lN ((fun _ => 0) j))))), (q8, .inl (t 1, 96, .inl (fun j => bI ((fun _ => false) j)))), (q9, .inl (t 0, 3072, .inl (fun j => nI ((fun _ => 0) j)))), (q10, .inl (t 0, 64, .inl (fun j => nI ((fun _ => 0) j)))), (q11, .inl (t 0, 64, .inl (fun j => nI ((fun _ => 0) j)))), (q12, .inl (t 0, 64, .inl (fun j => nI ((fun _ => 0) j)))), (q13, .inl (t 2, 48, .inr (.inl (fun j => lN ((fun _ => 0) j))))), (q14, .inl (t 1, 48, .inl (fun j => bI ((fun _ => false) j)))), (q15, .inl (t 1, 96, .inl (fun j => bI ((fun _ => false) j)))), (q16, .inl (t 0, 48, .inl (fun j => nI ((fun _ => 0) j)))), (q17, .inl (t 0, 48, .inl (fun j => nI ((fun _ => 0) j))))]) = (((o, .inr (5, [.ref q0, .ref q1, .ref q2, .ref q3, .ref q4, .int 0, .ref q5, .ref q6, .ref q7, .ref q8, .int 0, .ref q9, .ref q10, .ref q11, .ref q12, .int 0, .ref q13, .ref q14, .ref q15, .ref q16, .ref q17])) :: X18)) := by
    rw [eX18, eX17, eX16, eX15, eX14, eX13, eX12, eX11, eX10, eX9, eX8, eX7, eX6, eX5, eX4, eX3, eX2, eX1]
    simp only [List.append_assoc, List.cons_append, List.nil_append, List.singleton_append]
  rw [← e] at hB
  have hB : wB g classes A s.heap (mW (fun k => [o, q0, q1, q2, q3, q4, q5, q6, q7, q8, q9, q10, q11, q12, q13, q14, q15, q16, q17].getD k 0) t 0 (fun _ => 0) (fun _ => false) (fun _ => false) (fun _ => 0) (fun _ => 0) 0 (fun _ => 0) (fun _ => 0) (fun _ => 0) (fun _ => false) (fun _ => 0) (fun _ => 0) (fun _ => 0) (fun _ => 0) 0 (fun _ => 0) (fun _ => false) (fun _ => false) (fun _ => 0) (fun _ => 0) X0) H locs := hB.swap
  exact eM_v C0 hr hlk (fun k => [o, q0, q1, q2, q3, q4, q5, q6, q7, q8, q9, q10, q11, q12, q13, q14, q15, q16, q17].getD k 0) hB ⟨rfl, rfl⟩ (Nat.le_of_ble_eq_true rfl) (Nat.le_of_ble_eq_true rfl) d_MO_init_149
end INITM

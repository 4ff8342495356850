/-! the walk by the first tight arcs -/
section FW
variable {k t : Nat} {af tt ac c : Nat → Nat}
def bf_fw (k : Nat) (af tt ac c : Nat → Nat) (t : Nat) : Nat → List Nat → Prop
  | v, [] => v = t
  | v, j :: r => v ≠ t ∧ j < k ∧ bf_tight af tt ac c v j ∧ (∀ i, i < j → ¬ bf_tight af tt ac c v i) ∧ bf_fw k af tt ac c t (tt j) r
theorem bf_fw_ex (h : bf_ex k af tt ac t c) (hp : ∀ j, j < k → 0 < ac j) : ∀ (m v : Nat), c v < m → c v ≠ bf_far → ∃ w, bf_fw k af tt ac c t v w
  | 0, v, hm, _ => absurd hm (Nat.not_lt_zero _)
  | m + 1, v, hm, hc => by
    by_cases hv : v = t
    · exact ⟨[], hv⟩
    · obtain ⟨j0, h1, h2⟩ := bf_tight_ex h hv hc
      obtain ⟨j, ⟨h3, h4⟩, h5⟩ := pk_least (fun j => j < k ∧ bf_tight af tt ac c v j) ⟨j0, h1, h2⟩
      have h6 := hp j h3
      have h7 := h4.2.2
      obtain ⟨w, h8⟩ := bf_fw_ex h hp m (tt j) (by omega) h4.2.1
      exact ⟨j :: w, hv, h3, h4, fun i hi q => h5 i hi ⟨by omega, q⟩, h8⟩
theorem bf_fw_tw : ∀ (w : List Nat) (v : Nat), bf_fw k af tt ac c t v w → bf_tw k af tt ac c t v w
  | [], _, h => h
  | _ :: r, _, h => ⟨h.2.1, h.2.2.1, bf_fw_tw r _ h.2.2.2.2⟩
theorem bf_fw_min (h : bf_ex k af tt ac t c) (ht : c t = 0) {w : List Nat} {v : Nat} (hw : bf_fw k af tt ac c t v w) : bf_min k af tt ac t v w := by
  have h1 := bf_fw_tw w v hw
  refine ⟨bf_tw_walk w v h1, fun w' h2 => ?_⟩
  rw [bf_tw_cost ht w v h1]
  exact h.2.2 v w' h2
theorem bf_fw_len (h : bf_ex k af tt ac t c) (ht : c t = 0) (hp : ∀ j, j < k → 0 < ac j) {n : Nat} (hn : ∀ j, j < k → tt j < n) {v : Nat} (hv : v < n) {w : List Nat} (hw : bf_fw k af tt ac c t v w) : w.length < n := bf_min_len hp hn hv (bf_fw_min h ht hw)
theorem bf_nodes_len (v : Nat) (w : List Nat) : (bf_nodes tt v w).length = w.length + 1 := by simp [bf_nodes]
theorem bf_nodes_s {v : Nat} {w : List Nat} {j : Nat} (hj : j < w.length) : (bf_nodes tt v w).getD (j + 1) 0 = tt (w.getD j 0) := by
  simp [bf_nodes, List.getD, hj]
theorem bf_fw_at : ∀ (w : List Nat) (v j : Nat), bf_fw k af tt ac c t v w → j < w.length → (bf_nodes tt v w).getD j 0 ≠ t ∧ w.getD j 0 < k ∧ bf_tight af tt ac c ((bf_nodes tt v w).getD j 0) (w.getD j 0) ∧ ∀ i, i < w.getD j 0 → ¬ bf_tight af tt ac c ((bf_nodes tt v w).getD j 0) i
  | [], v, j, _, hj => absurd hj (Nat.not_lt_zero _)
  | x :: r, v, 0, h, _ => ⟨h.1, h.2.1, h.2.2.1, h.2.2.2.1⟩
  | x :: r, v, j + 1, h, hj => bf_fw_at r (tt x) j h.2.2.2.2 (by simpa using hj)
theorem bf_fw_end : ∀ (w : List Nat) (v : Nat), bf_fw k af tt ac c t v w → (bf_nodes tt v w).getD w.length 0 = t
  | [], v, h => h
  | x :: r, v, h => bf_fw_end r (tt x) h.2.2.2.2
theorem bf_walk_lt {n : Nat} (hn : ∀ j, j < k → tt j < n) : ∀ (w : List Nat) (v j : Nat), v < n → bf_walk k af tt t v w → (bf_nodes tt v w).getD j 0 < n
  | [], v, j, hv, _ => by
    cases j with
    | zero => exact hv
    | succ j => exact Nat.lt_of_le_of_lt (Nat.zero_le _) hv
  | x :: r, v, 0, hv, _ => hv
  | x :: r, v, j + 1, hv, hw => bf_walk_lt hn r (tt x) j (hn x hw.1) hw.2.2
end FW
theorem nI_m1 {j : Nat} (hj : j < 2 ^ 31) : ¬ nI j = -1 := by
  intro q
  have h := nI_toInt hj
  rw [q] at h
  have : (-1 : Int32).toInt = -1 := by decide
  omega
theorem bf_it_s1 {af tt ac c0 : Nat → Nat} {i : Nat} (h : bf_it af tt ac c0 i (tt i) ≠ bf_far ∧ bf_it af tt ac c0 i (tt i) + ac i < bf_it af tt ac c0 i (af i)) : bf_it af tt ac c0 (i + 1) = va_up (bf_it af tt ac c0 i) (af i) (bf_it af tt ac c0 i (tt i) + ac i) ∧ bf_ch af tt ac c0 (i + 1) = true := by
  constructor
  · show (if _ then _ else _) = _
    rw [if_pos h]
  · show (_ || decide _) = true
    rw [decide_eq_true h, Bool.or_true]
theorem bf_it_s0 {af tt ac c0 : Nat → Nat} {i : Nat} (h : ¬ (bf_it af tt ac c0 i (tt i) ≠ bf_far ∧ bf_it af tt ac c0 i (tt i) + ac i < bf_it af tt ac c0 i (af i))) : bf_it af tt ac c0 (i + 1) = bf_it af tt ac c0 i ∧ bf_ch af tt ac c0 (i + 1) = bf_ch af tt ac c0 i := by
  constructor
  · show (if _ then _ else _) = _
    rw [if_neg h]
  · show (_ || decide _) = _
    rw [decide_eq_false h, Bool.or_false]
theorem rc_0 {ak e0 : Nat} {af tt ac : Nat → Nat} (_ : ak ≤ 192) : 0 ≤ 48 ∧ (∀ v, va_up (fun _ => bf_far) e0 0 v ≤ bf_far) ∧ bf_snd ak af tt ac e0 (va_up (fun _ => bf_far) e0 0) ∧ va_up (fun _ => bf_far) e0 0 e0 = 0 ∧ bf_bd (0 * (192 * 100000000000)) (va_up (fun _ => bf_far) e0 0) ∧ bf_cmp ak af tt ac e0 0 (va_up (fun _ => bf_far) e0 0) ∧ (true = false → ∀ j, j < ak → va_up (fun _ => bf_far) e0 0 (tt j) ≠ bf_far → va_up (fun _ => bf_far) e0 0 (af j) ≤ va_up (fun _ => bf_far) e0 0 (tt j) + ac j) := by
  refine ⟨Nat.zero_le _, fun v => ?_, fun v hv => ?_, va_up_self _ _ _, fun v => ?_, fun v w hw hl => ?_, fun h => by cases h⟩
  · by_cases e : v = e0
    · rw [e, va_up_self]; exact Nat.zero_le _
    · rw [va_up_ne _ _ e]; exact Nat.le_refl _
  · by_cases e : v = e0
    · subst e
      exact ⟨[], rfl, (va_up_self _ _ _).symm⟩
    · rw [va_up_ne _ _ e] at hv
      exact absurd rfl hv
  · by_cases e : v = e0
    · rw [e, va_up_self]; exact Or.inr (Nat.zero_le _)
    · rw [va_up_ne _ _ e]; exact Or.inl rfl
  · cases w with
    | nil =>
      have e : v = e0 := hw
      rw [e, va_up_self]
      exact Nat.zero_le _
    | cons j r => simp at hl
theorem rc_s {ak e0 r : Nat} {af tt ac f f1 : Nat → Nat} (hak : ak ≤ 192) (hac : ∀ j, j < ak → ac j ≤ 100000000000) (h2 : ∀ v, f v ≤ bf_far) (h3 : bf_snd ak af tt ac e0 f) (h4 : f e0 = 0) (h5 : bf_bd (r * (192 * 100000000000)) f) (h6 : bf_cmp ak af tt ac e0 r f) (hr : r < 48) (hf : f1 = bf_it af tt ac f ak) : r + 1 ≤ 48 ∧ (∀ v, f1 v ≤ bf_far) ∧ bf_snd ak af tt ac e0 f1 ∧ f1 e0 = 0 ∧ bf_bd ((r + 1) * (192 * 100000000000)) f1 ∧ bf_cmp ak af tt ac e0 (r + 1) f1 ∧ (bf_ch af tt ac f ak = false → ∀ j, j < ak → f1 (tt j) ≠ bf_far → f1 (af j) ≤ f1 (tt j) + ac j) := by
  subst hf
  refine ⟨by omega, fun v => bf_le_far h2 ak v, bf_snd_it h3 ak (Nat.le_refl _), ?_, fun v => ?_, bf_cmp_pass h2 hac ?_ h6, fun hc => ?_⟩
  · have := bf_mono (af := af) (tt := tt) (ac := ac) f ak e0
    omega
  · rcases bf_bd_it (af := af) (tt := tt) h5 hac ak (Nat.le_refl _) v with q | q
    · exact Or.inl q
    · refine Or.inr ?_
      have : ak * 100000000000 ≤ 192 * 100000000000 := Nat.mul_le_mul_right _ hak
      rw [Nat.succ_mul]
      exact Nat.le_trans q (Nat.add_le_add_left this _)
  · have : r * 100000000000 ≤ 48 * 100000000000 := Nat.mul_le_mul_right _ (by omega)
    show _ < 4611686018427387904
    omega
  · have := bf_still ak hc
    rw [this.1]
    exact this.2

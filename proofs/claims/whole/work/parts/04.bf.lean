/-! BELLMAN-FORD over arcs that are numbered 0 .. k-1: af (from), tt (to), ac (cost). A walk is a row of arc numbers. -/
abbrev bf_far : Nat := 4611686018427387904
def bf_walk (k : Nat) (af tt : Nat → Nat) (t : Nat) : Nat → List Nat → Prop
  | v, [] => v = t
  | v, j :: r => j < k ∧ af j = v ∧ bf_walk k af tt t (tt j) r
def bf_cost (ac : Nat → Nat) : List Nat → Nat
  | [] => 0
  | j :: r => ac j + bf_cost ac r
/-- the costs behind the first i arcs of one pass -/
def bf_it (af tt ac : Nat → Nat) (c0 : Nat → Nat) : Nat → Nat → Nat
  | 0 => c0
  | i + 1 => if bf_it af tt ac c0 i (tt i) ≠ bf_far ∧ bf_it af tt ac c0 i (tt i) + ac i < bf_it af tt ac c0 i (af i) then va_up (bf_it af tt ac c0 i) (af i) (bf_it af tt ac c0 i (tt i) + ac i) else bf_it af tt ac c0 i
/-- whether one of the first i arcs changed something -/
def bf_ch (af tt ac : Nat → Nat) (c0 : Nat → Nat) : Nat → Bool
  | 0 => false
  | i + 1 => bf_ch af tt ac c0 i || decide (bf_it af tt ac c0 i (tt i) ≠ bf_far ∧ bf_it af tt ac c0 i (tt i) + ac i < bf_it af tt ac c0 i (af i))
section BF
variable {k t : Nat} {af tt ac : Nat → Nat}
theorem bf_mono (c0 : Nat → Nat) : ∀ i v, bf_it af tt ac c0 i v ≤ c0 v
  | 0, v => Nat.le_refl _
  | i + 1, v => by
    have ih := bf_mono c0 i v
    unfold bf_it
    split
    · rename_i h
      by_cases hv : v = af i
      · subst hv
        rw [va_up_self]
        omega
      · rw [va_up_ne _ _ hv]
        exact ih
    · exact ih
theorem bf_le_far {c0 : Nat → Nat} (h : ∀ v, c0 v ≤ bf_far) (i v : Nat) : bf_it af tt ac c0 i v ≤ bf_far := Nat.le_trans (bf_mono c0 i v) (h v)
theorem bf_relaxed {c0 : Nat → Nat} (h : ∀ v, c0 v ≤ bf_far) : ∀ i j, j < i → c0 (tt j) ≠ bf_far → bf_it af tt ac c0 i (af j) ≤ c0 (tt j) + ac j
  | 0, j, hj, _ => absurd hj (Nat.not_lt_zero _)
  | i + 1, j, hj, hne => by
    have hs : ∀ v, bf_it af tt ac c0 (i + 1) v ≤ bf_it af tt ac c0 i v := by
      intro v
      conv => lhs; unfold bf_it
      split
      · rename_i h2
        by_cases hv : v = af i
        · subst hv
          rw [va_up_self]
          omega
        · rw [va_up_ne _ _ hv]
          exact Nat.le_refl _
      · exact Nat.le_refl _
    rcases Nat.lt_succ_iff_lt_or_eq.mp hj with h1 | h1
    · exact Nat.le_trans (hs _) (bf_relaxed h i j h1 hne)
    · subst h1
      have hm := bf_mono (af := af) (tt := tt) (ac := ac) c0 j (tt j)
      have hf := h (tt j)
      unfold bf_it
      split
      · rw [va_up_self]
        omega
      · rename_i h2
        have : bf_it af tt ac c0 j (tt j) ≠ bf_far := by omega
        have h3 : ¬ bf_it af tt ac c0 j (tt j) + ac j < bf_it af tt ac c0 j (af j) := fun q => h2 ⟨this, q⟩
        omega
theorem bf_still {c0 : Nat → Nat} : ∀ i, bf_ch af tt ac c0 i = false → bf_it af tt ac c0 i = c0 ∧ ∀ j, j < i → c0 (tt j) ≠ bf_far → c0 (af j) ≤ c0 (tt j) + ac j
  | 0, _ => ⟨rfl, fun j hj => absurd hj (Nat.not_lt_zero _)⟩
  | i + 1, h => by
    unfold bf_ch at h
    rw [Bool.or_eq_false_iff] at h
    obtain ⟨h1, h2⟩ := h
    obtain ⟨e1, e2⟩ := bf_still i h1
    rw [e1] at h2
    have h2 := of_decide_eq_false h2
    refine ⟨?_, ?_⟩
    · unfold bf_it
      rw [e1, if_neg h2]
    · intro j hj hne
      rcases Nat.lt_succ_iff_lt_or_eq.mp hj with h3 | h3
      · exact e2 j h3 hne
      · subst h3
        have h4 : ¬ c0 (tt j) + ac j < c0 (af j) := fun q => h2 ⟨hne, q⟩
        omega
/-- finite costs are costs of walks -/
def bf_snd (k : Nat) (af tt ac : Nat → Nat) (t : Nat) (c : Nat → Nat) : Prop := ∀ v, c v ≠ bf_far → ∃ w, bf_walk k af tt t v w ∧ bf_cost ac w = c v
theorem bf_snd_it {c0 : Nat → Nat} (h : bf_snd k af tt ac t c0) : ∀ i, i ≤ k → bf_snd k af tt ac t (bf_it af tt ac c0 i)
  | 0, _ => h
  | i + 1, hi => by
    have ih := bf_snd_it h i (by omega)
    intro v hv
    unfold bf_it at hv ⊢
    split
    · rename_i h1
      rw [if_pos h1] at hv
      by_cases hv2 : v = af i
      · subst hv2
        rw [va_up_self]
        obtain ⟨w, h2, h3⟩ := ih _ h1.1
        exact ⟨i :: w, ⟨by omega, rfl, h2⟩, by show ac i + bf_cost ac w = _; omega⟩
      · rw [va_up_ne _ _ hv2] at hv ⊢
        exact ih v hv
    · rename_i h1
      rw [if_neg h1] at hv
      exact ih v hv
/-- finite costs are small -/
def bf_bd (M : Nat) (c : Nat → Nat) : Prop := ∀ v, c v = bf_far ∨ c v ≤ M
theorem bf_bd_it {c0 : Nat → Nat} {M B : Nat} (h : bf_bd M c0) (hB : ∀ j, j < k → ac j ≤ B) : ∀ i, i ≤ k → bf_bd (M + i * B) (bf_it af tt ac c0 i)
  | 0, _ => fun v => by
    rcases h v with h1 | h1
    · exact Or.inl h1
    · exact Or.inr (by show c0 v ≤ _; omega)
  | i + 1, hi => by
    have ih := bf_bd_it h hB i (by omega)
    have hb := hB i (by omega)
    have e : M + (i + 1) * B = M + i * B + B := by rw [Nat.succ_mul]; omega
    rw [e]
    intro v
    unfold bf_it
    split
    · rename_i h1
      by_cases hv2 : v = af i
      · subst hv2
        rw [va_up_self]
        rcases ih (tt i) with h2 | h2
        · exact absurd h2 h1.1
        · exact Or.inr (by omega)
      · rw [va_up_ne _ _ hv2]
        rcases ih v with h2 | h2
        · exact Or.inl h2
        · exact Or.inr (by omega)
    · rcases ih v with h2 | h2
      · exact Or.inl h2
      · exact Or.inr (by omega)
theorem bf_cost_le {B : Nat} (hB : ∀ j, j < k → ac j ≤ B) : ∀ (w : List Nat) (v : Nat), bf_walk k af tt t v w → bf_cost ac w ≤ w.length * B
  | [], _, _ => Nat.zero_le _
  | j :: r, v, h => by
    have ih := bf_cost_le hB r _ h.2.2
    have := hB j h.1
    show ac j + bf_cost ac r ≤ (r.length + 1) * B
    rw [Nat.succ_mul]
    omega
/-- r passes: no walk of at most r arcs is cheaper -/
def bf_cmp (k : Nat) (af tt ac : Nat → Nat) (t r : Nat) (c : Nat → Nat) : Prop := ∀ v w, bf_walk k af tt t v w → w.length ≤ r → c v ≤ bf_cost ac w
theorem bf_cmp_pass {c0 : Nat → Nat} {B r : Nat} (hf : ∀ v, c0 v ≤ bf_far) (hB : ∀ j, j < k → ac j ≤ B) (hr : r * B < bf_far) (h : bf_cmp k af tt ac t r c0) : bf_cmp k af tt ac t (r + 1) (bf_it af tt ac c0 k) := by
  intro v w hw hl
  cases w with
  | nil => exact Nat.le_trans (bf_mono c0 k v) (h v [] hw (Nat.zero_le _))
  | cons j w' =>
    obtain ⟨h1, h2, h3⟩ := hw
    have hl' : w'.length ≤ r := by simpa using hl
    have h4 := h _ w' h3 hl'
    have h5 := bf_cost_le hB w' _ h3
    have h6 : w'.length * B ≤ r * B := Nat.mul_le_mul_right B hl'
    have h7 := bf_relaxed (af := af) (tt := tt) (ac := ac) hf k j h1 (by omega)
    subst h2
    show _ ≤ ac j + bf_cost ac w'
    omega
theorem bf_fix {c0 : Nat → Nat} (hf : ∀ v, c0 v ≤ bf_far) (ht : c0 t = 0) (h : ∀ j, j < k → c0 (tt j) ≠ bf_far → c0 (af j) ≤ c0 (tt j) + ac j) : ∀ (w : List Nat) (v : Nat), bf_walk k af tt t v w → c0 v ≤ bf_cost ac w
  | [], v, hw => by
    have e : v = t := hw
    rw [e, ht]
    exact Nat.zero_le _
  | j :: r, v, hw => by
    obtain ⟨h1, h2, h3⟩ := hw
    have ih := bf_fix hf ht h r _ h3
    subst h2
    show _ ≤ ac j + bf_cost ac r
    by_cases hn : c0 (tt j) = bf_far
    · have := hf (af j)
      omega
    · have := h j h1 hn
      omega
/-- the things on a walk -/
def bf_nodes (tt : Nat → Nat) (v : Nat) (w : List Nat) : List Nat := v :: w.map tt
theorem bf_suffix : ∀ (w : List Nat) (v u : Nat), bf_walk k af tt t v w → u ∈ bf_nodes tt v w → ∃ w', bf_walk k af tt t u w' ∧ bf_cost ac w' ≤ bf_cost ac w
  | [], v, u, hw, hu => by
    have e : u = v := by simpa [bf_nodes] using hu
    subst e
    exact ⟨[], hw, Nat.le_refl _⟩
  | j :: r, v, u, hw, hu => by
    rcases List.mem_cons.mp hu with e | h1
    · subst e
      exact ⟨j :: r, hw, Nat.le_refl _⟩
    · obtain ⟨w', h2, h3⟩ := bf_suffix r (tt j) u hw.2.2 h1
      exact ⟨w', h2, by show _ ≤ ac j + bf_cost ac r; omega⟩
/-- a cheapest walk -/
def bf_min (k : Nat) (af tt ac : Nat → Nat) (t v : Nat) (w : List Nat) : Prop := bf_walk k af tt t v w ∧ ∀ w', bf_walk k af tt t v w' → bf_cost ac w ≤ bf_cost ac w'
theorem bf_min_ex {v : Nat} (h : ∃ w, bf_walk k af tt t v w) : ∃ w, bf_min k af tt ac t v w := by
  obtain ⟨w0, h0⟩ := h
  obtain ⟨n, ⟨w, h1, h2⟩, h3⟩ := pk_least (fun n => ∃ w, bf_walk k af tt t v w ∧ bf_cost ac w = n) ⟨_, w0, h0, rfl⟩
  refine ⟨w, h1, fun w' h4 => ?_⟩
  rcases Nat.lt_or_ge (bf_cost ac w') (bf_cost ac w) with h5 | h5
  · exact absurd ⟨w', h4, rfl⟩ (h3 _ (by omega))
  · exact h5
theorem bf_min_tail {v j : Nat} {r : List Nat} (h : bf_min k af tt ac t v (j :: r)) : bf_min k af tt ac t (tt j) r := by
  refine ⟨h.1.2.2, fun w' h1 => ?_⟩
  have h2 := h.2 (j :: w') ⟨h.1.1, h.1.2.1, h1⟩
  have h3 : ac j + bf_cost ac r ≤ ac j + bf_cost ac w' := h2
  omega
theorem bf_min_nodup (hp : ∀ j, j < k → 0 < ac j) : ∀ (w : List Nat) (v : Nat), bf_min k af tt ac t v w → (bf_nodes tt v w).Nodup
  | [], v, _ => by simp [bf_nodes]
  | j :: r, v, h => by
    have ih := bf_min_nodup hp r _ (bf_min_tail h)
    show (v :: bf_nodes tt (tt j) r).Nodup
    refine List.nodup_cons.mpr ⟨fun hm => ?_, ih⟩
    obtain ⟨w', h1, h2⟩ := bf_suffix (ac := ac) r (tt j) v h.1.2.2 hm
    have h3 := h.2 w' h1
    have h4 : ac j + bf_cost ac r ≤ bf_cost ac w' := h3
    have := hp j h.1.1
    omega
/-- different numbers below n are at most n -/
theorem bf_pigeon : ∀ (n : Nat) (l : List Nat), l.Nodup → (∀ x ∈ l, x < n) → l.length ≤ n
  | 0, l, _, h => by
    cases l with
    | nil => exact Nat.le_refl _
    | cons a r => exact absurd (h a List.mem_cons_self) (Nat.not_lt_zero _)
  | n + 1, l, hd, h => by
    by_cases hn : n ∈ l
    · have h1 : (l.erase n).length = l.length - 1 := List.length_erase_of_mem hn
      have h2 : (l.erase n).Nodup := hd.erase n
      have h3 := bf_pigeon n (l.erase n) h2 (fun x hx => by
        have h4 := (hd.mem_erase_iff).mp hx
        have h5 := h x h4.2
        omega)
      omega
    · have h3 := bf_pigeon n l hd (fun x hx => by
        have h5 := h x hx
        have h6 : x ≠ n := fun e => hn (e ▸ hx)
        omega)
      omega
theorem bf_min_len {n v : Nat} {w : List Nat} (hp : ∀ j, j < k → 0 < ac j) (hn : ∀ j, j < k → tt j < n) (hv : v < n) (h : bf_min k af tt ac t v w) : w.length < n := by
  have h1 := bf_min_nodup hp w v h
  have hx : ∀ (w : List Nat) (v : Nat), v < n → bf_walk k af tt t v w → ∀ x ∈ bf_nodes tt v w, x < n := by
    intro w
    induction w with
    | nil =>
      intro v hv _ x hx
      have e : x = v := by simpa [bf_nodes] using hx
      rw [e]
      exact hv
    | cons j r ih =>
      intro v hv hw x hx
      rcases List.mem_cons.mp hx with e | h2
      · rw [e]; exact hv
      · exact ih (tt j) (hn j hw.1) hw.2.2 x h2
  have h2 := bf_pigeon n _ h1 (hx w v hv h.1)
  simp [bf_nodes] at h2
  omega
/-- EXACT costs: none is above far, a finite one is a walk's, no walk is cheaper -/
def bf_ex (k : Nat) (af tt ac : Nat → Nat) (t : Nat) (c : Nat → Nat) : Prop := (∀ v, c v ≤ bf_far) ∧ bf_snd k af tt ac t c ∧ ∀ v w, bf_walk k af tt t v w → c v ≤ bf_cost ac w
theorem bf_ex_fix {c : Nat → Nat} (hf : ∀ v, c v ≤ bf_far) (hs : bf_snd k af tt ac t c) (ht : c t = 0) (hc : bf_ch af tt ac c k = false) : bf_ex k af tt ac t c :=
  ⟨hf, hs, fun v w hw => bf_fix hf ht (bf_still k hc).2 w v hw⟩
theorem bf_ex_cmp {c : Nat → Nat} {n : Nat} (hf : ∀ v, c v ≤ bf_far) (hs : bf_snd k af tt ac t c) (hp : ∀ j, j < k → 0 < ac j) (hn : ∀ j, j < k → af j < n ∧ tt j < n) (htn : t < n) (hc : bf_cmp k af tt ac t n c) : bf_ex k af tt ac t c := by
  refine ⟨hf, hs, fun v w hw => ?_⟩
  obtain ⟨w0, h0⟩ := bf_min_ex (ac := ac) ⟨w, hw⟩
  have hv : v < n := by
    cases w with
    | nil => have e : v = t := hw; rw [e]; exact htn
    | cons j r => rw [← hw.2.1]; exact (hn j hw.1).1
  have h1 := bf_min_len hp (fun j h => (hn j h).2) hv h0
  exact Nat.le_trans (hc v w0 h0.1 (by omega)) (h0.2 w hw)
/-- an arc that is tight: it is on a cheapest walk from its beginning -/
def bf_tight (af tt ac c : Nat → Nat) (v j : Nat) : Prop := af j = v ∧ c (tt j) ≠ bf_far ∧ c (tt j) + ac j = c v
theorem bf_tight_ex {c : Nat → Nat} {v : Nat} (h : bf_ex k af tt ac t c) (hv : v ≠ t) (hc : c v ≠ bf_far) : ∃ j, j < k ∧ bf_tight af tt ac c v j := by
  obtain ⟨hf, hs, hm⟩ := h
  obtain ⟨w, hw, he⟩ := hs v hc
  cases w with
  | nil => exact absurd hw hv
  | cons j r =>
    have h1 := hm _ r hw.2.2
    have h2 : ac j + bf_cost ac r = c v := he
    have h3 := hf v
    have h4 : c (tt j) ≠ bf_far := by omega
    obtain ⟨w2, hw2, he2⟩ := hs _ h4
    have h5 := hm v (j :: w2) ⟨hw.1, hw.2.1, hw2⟩
    have h6 : c v ≤ ac j + bf_cost ac w2 := h5
    exact ⟨j, hw.1, hw.2.1, h4, by omega⟩
/-- a walk by tight arcs -/
def bf_tw (k : Nat) (af tt ac c : Nat → Nat) (t : Nat) : Nat → List Nat → Prop
  | v, [] => v = t
  | v, j :: r => j < k ∧ bf_tight af tt ac c v j ∧ bf_tw k af tt ac c t (tt j) r
theorem bf_tw_walk {c : Nat → Nat} : ∀ (w : List Nat) (v : Nat), bf_tw k af tt ac c t v w → bf_walk k af tt t v w
  | [], _, h => h
  | _ :: r, _, h => ⟨h.1, h.2.1.1, bf_tw_walk r _ h.2.2⟩
theorem bf_tw_cost {c : Nat → Nat} (ht : c t = 0) : ∀ (w : List Nat) (v : Nat), bf_tw k af tt ac c t v w → bf_cost ac w = c v
  | [], v, h => by
    have e : v = t := h
    rw [e, ht]
    rfl
  | j :: r, v, h => by
    have ih := bf_tw_cost ht r _ h.2.2
    have := h.2.1.2.2
    show ac j + bf_cost ac r = c v
    omega
theorem bf_tw_of {c : Nat → Nat} (h : bf_ex k af tt ac t c) : ∀ (w : List Nat) (v : Nat), bf_walk k af tt t v w → bf_cost ac w ≤ c v → c v ≠ bf_far → bf_tw k af tt ac c t v w
  | [], _, hw, _, _ => hw
  | j :: r, v, hw, hl, hc => by
    obtain ⟨hf, hs, hm⟩ := id h
    have h1 := hm _ r hw.2.2
    have h2 : ac j + bf_cost ac r ≤ c v := hl
    have h3 := hf v
    have h4 : c (tt j) ≠ bf_far := by omega
    obtain ⟨w2, hw2, he2⟩ := hs _ h4
    have h5 := hm v (j :: w2) ⟨hw.1, hw.2.1, hw2⟩
    have h6 : c v ≤ ac j + bf_cost ac w2 := h5
    exact ⟨hw.1, ⟨hw.2.1, h4, by omega⟩, bf_tw_of h r _ hw.2.2 (by omega) h4⟩
end BF

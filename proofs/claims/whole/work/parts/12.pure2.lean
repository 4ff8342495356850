/-! pure words of the search -/
def shT (kd : Nat → Nat) (br rn : Nat → Bool) (ea eb : Nat → Nat) (k x : Nat) : Bool := br x || (decide (kd x ≠ 0) && anyN (fun p => rn p && endB ea eb x p) k)
theorem shT_0 {kd : Nat → Nat} {br rn : Nat → Bool} {ea eb : Nat → Nat} {x : Nat} : shT kd br rn ea eb 0 x = br x := by
  unfold shT anyN
  rw [Bool.and_false, Bool.or_false]
theorem shT_off {kd : Nat → Nat} {br rn : Nat → Bool} {ea eb : Nat → Nat} {k x : Nat} (h : rn k = false) : shT kd br rn ea eb (k + 1) x = shT kd br rn ea eb k x := by
  unfold shT
  show (br x || (decide (kd x ≠ 0) && (anyN (fun p => rn p && endB ea eb x p) k || (rn k && endB ea eb x k)))) = _
  rw [h, Bool.false_and, Bool.or_false]
theorem shT_on {kd : Nat → Nat} {br rn : Nat → Bool} {ea eb : Nat → Nat} {k x : Nat} (h : rn k = true) : shT kd br rn ea eb (k + 1) x = ((shT kd br rn ea eb k x || decide (x = ea k ∧ kd (ea k) ≠ 0)) || decide (x = eb k ∧ kd (eb k) ≠ 0)) := by
  have e : (decide (kd x ≠ 0) && endB ea eb x k) = (decide (x = ea k ∧ kd (ea k) ≠ 0) || decide (x = eb k ∧ kd (eb k) ≠ 0)) := by
    unfold endB
    by_cases h1 : ea k = x
    · by_cases h0 : kd x ≠ 0
      · rw [decide_eq_true h0, decide_eq_true h1, decide_eq_true (show x = ea k ∧ kd (ea k) ≠ 0 from ⟨h1.symm, by rw [h1]; exact h0⟩)]; rfl
      · rw [decide_eq_false h0, decide_eq_false (show ¬ (x = ea k ∧ kd (ea k) ≠ 0) from fun q => h0 (by rw [q.1]; exact q.2)), decide_eq_false (show ¬ (x = eb k ∧ kd (eb k) ≠ 0) from fun q => h0 (by rw [q.1]; exact q.2))]; rfl
    · rw [decide_eq_false h1, decide_eq_false (show ¬ (x = ea k ∧ kd (ea k) ≠ 0) from fun q => h1 q.1.symm)]
      by_cases h2 : eb k = x
      · by_cases h0 : kd x ≠ 0
        · rw [decide_eq_true h0, decide_eq_true h2, decide_eq_true (show x = eb k ∧ kd (eb k) ≠ 0 from ⟨h2.symm, by rw [h2]; exact h0⟩)]; rfl
        · rw [decide_eq_false h0, decide_eq_false (show ¬ (x = eb k ∧ kd (eb k) ≠ 0) from fun q => h0 (by rw [q.1]; exact q.2))]; rfl
      · rw [decide_eq_false h2, decide_eq_false (show ¬ (x = eb k ∧ kd (eb k) ≠ 0) from fun q => h2 q.1.symm), Bool.or_false, Bool.and_false]
  unfold shT
  show (br x || (decide (kd x ≠ 0) && (anyN (fun p => rn p && endB ea eb x p) k || (rn k && endB ea eb x k)))) = _
  rw [h, Bool.true_and, Bool.and_or_distrib_left, e, Bool.or_assoc, Bool.or_assoc]
/-- an arc from u to v is open, for a search that ends at e -/
def okA (kd : Nat → Nat) (ii oo : Nat → Int32) (sT : Nat → Bool) (e u v : Nat) : Bool := !(sT u || sT v) && (!(decide (kd v = 0) && decide (v ≠ e)) && letB kd ii oo u v)
def valv (kd : Nat → Nat) (v : Nat) : Nat := if kd v = 2 then 1 else 0
/-- the arcs of the pipes below q -/
def Arcs (kd : Nat → Nat) (ii oo : Nat → Int32) (ea eb li : Nat → Nat) (sT sP : Nat → Bool) (e q k : Nat) (ap af tt ac : Nat → Nat) : Prop :=
  k ≤ 2 * q ∧ (∀ j, j < k → ap j < q ∧ sP (ap j) = false ∧ ((af j = ea (ap j) ∧ tt j = eb (ap j)) ∨ (af j = eb (ap j) ∧ tt j = ea (ap j))) ∧ okA kd ii oo sT e (af j) (tt j) = true ∧ ac j = 64 * li (ap j) + valv kd (tt j)) ∧
  (∀ p, p < q → sP p = false → okA kd ii oo sT e (ea p) (eb p) = true → ∃ j, j < k ∧ ap j = p ∧ af j = ea p ∧ tt j = eb p) ∧
  (∀ p, p < q → sP p = false → okA kd ii oo sT e (eb p) (ea p) = true → ∃ j, j < k ∧ ap j = p ∧ af j = eb p ∧ tt j = ea p) ∧
  ∀ i j, i ≤ j → j < k → ap i ≤ ap j
/-- what laying one arc does to the rows -/
def Laid (ok : Bool) (c p u v : Nat) (k : Nat) (ap af tt ac : Nat → Nat) (k' : Nat) (ap' af' tt' ac' : Nat → Nat) : Prop :=
  (ok = true ∧ k' = k + 1 ∧ ap' = va_up ap k p ∧ af' = va_up af k u ∧ tt' = va_up tt k v ∧ ac' = va_up ac k c) ∨ (ok = false ∧ k' = k ∧ ap' = ap ∧ af' = af ∧ tt' = tt ∧ ac' = ac)
/-- with the two directions of pipe q still to come, or one of them -/
theorem Arcs_0 {kd : Nat → Nat} {ii oo : Nat → Int32} {ea eb li : Nat → Nat} {sT sP : Nat → Bool} {e : Nat} {ap af tt ac : Nat → Nat} : Arcs kd ii oo ea eb li sT sP e 0 0 ap af tt ac :=
  ⟨Nat.le_refl _, fun j h => absurd h (Nat.not_lt_zero _), fun p h => absurd h (Nat.not_lt_zero _), fun p h => absurd h (Nat.not_lt_zero _), fun i j _ h => absurd h (Nat.not_lt_zero _)⟩
theorem Arcs_shut {kd : Nat → Nat} {ii oo : Nat → Int32} {ea eb li : Nat → Nat} {sT sP : Nat → Bool} {e q k : Nat} {ap af tt ac : Nat → Nat} (h : Arcs kd ii oo ea eb li sT sP e q k ap af tt ac) (hs : sP q = true) : Arcs kd ii oo ea eb li sT sP e (q + 1) k ap af tt ac := by
  obtain ⟨h1, h2, h3, h4, h5⟩ := h
  refine ⟨by omega, fun j hj => ?_, fun p hp hn ho => ?_, fun p hp hn ho => ?_, h5⟩
  · have := h2 j hj
    exact ⟨by omega, this.2⟩
  · rcases Nat.lt_succ_iff_lt_or_eq.mp hp with a | a
    · exact h3 p a hn ho
    · rw [a, hs] at hn; cases hn
  · rcases Nat.lt_succ_iff_lt_or_eq.mp hp with a | a
    · exact h4 p a hn ho
    · rw [a, hs] at hn; cases hn
theorem Arcs_lay {kd : Nat → Nat} {ii oo : Nat → Int32} {ea eb li : Nat → Nat} {sT sP : Nat → Bool} {e q k : Nat} {ap af tt ac : Nat → Nat} {k1 : Nat} {ap1 af1 tt1 ac1 : Nat → Nat} {k2 : Nat} {ap2 af2 tt2 ac2 : Nat → Nat} (h : Arcs kd ii oo ea eb li sT sP e q k ap af tt ac) (hs : sP q = false)
    (hl : Laid (okA kd ii oo sT e (ea q) (eb q)) (64 * li q + valv kd (eb q)) q (ea q) (eb q) k ap af tt ac k1 ap1 af1 tt1 ac1) (hm : Laid (okA kd ii oo sT e (eb q) (ea q)) (64 * li q + valv kd (ea q)) q (eb q) (ea q) k1 ap1 af1 tt1 ac1 k2 ap2 af2 tt2 ac2) : Arcs kd ii oo ea eb li sT sP e (q + 1) k2 ap2 af2 tt2 ac2 := by
  -- one direction
  have one : ∀ (u v k k' : Nat) (ap af tt ac ap' af' tt' ac' : Nat → Nat), (u = ea q ∧ v = eb q ∨ u = eb q ∧ v = ea q) →
      (∀ j, j < k → ap j < q + 1 ∧ sP (ap j) = false ∧ ((af j = ea (ap j) ∧ tt j = eb (ap j)) ∨ (af j = eb (ap j) ∧ tt j = ea (ap j))) ∧ okA kd ii oo sT e (af j) (tt j) = true ∧ ac j = 64 * li (ap j) + valv kd (tt j)) →
      (∀ i j, i ≤ j → j < k → ap i ≤ ap j) → Laid (okA kd ii oo sT e u v) (64 * li q + valv kd v) q u v k ap af tt ac k' ap' af' tt' ac' →
      k ≤ k' ∧ k' ≤ k + 1 ∧ (∀ j, j < k' → ap' j < q + 1 ∧ sP (ap' j) = false ∧ ((af' j = ea (ap' j) ∧ tt' j = eb (ap' j)) ∨ (af' j = eb (ap' j) ∧ tt' j = ea (ap' j))) ∧ okA kd ii oo sT e (af' j) (tt' j) = true ∧ ac' j = 64 * li (ap' j) + valv kd (tt' j)) ∧
      (∀ i j, i ≤ j → j < k' → ap' i ≤ ap' j) ∧ (∀ j, j < k → ap' j = ap j ∧ af' j = af j ∧ tt' j = tt j) ∧ (okA kd ii oo sT e u v = true → ∃ j, j < k' ∧ ap' j = q ∧ af' j = u ∧ tt' j = v) := by
    intro u v k k' ap af tt ac ap' af' tt' ac' huv g1 g2 g
    rcases g with ⟨ho, rfl, rfl, rfl, rfl, rfl⟩ | ⟨ho, rfl, rfl, rfl, rfl, rfl⟩
    · refine ⟨by omega, by omega, fun j hj => ?_, fun i j hij hj => ?_, fun j hj => ?_, fun _ => ⟨k, by omega, va_up_self _ _ _, va_up_self _ _ _, va_up_self _ _ _⟩⟩
      · by_cases e1 : j = k
        · subst e1
          simp only [va_up_self]
          refine ⟨by omega, hs, ?_, ho, trivial⟩
          rcases huv with ⟨a, b⟩ | ⟨a, b⟩
          · exact Or.inl ⟨a, b⟩
          · exact Or.inr ⟨a, b⟩
        · simp only [va_up_ne _ _ e1]
          exact g1 j (by omega)
      · by_cases e1 : j = k
        · subst e1
          rw [va_up_self]
          by_cases e2 : i = j
          · subst e2
            rw [va_up_self]
            exact Nat.le_refl _
          · rw [va_up_ne _ _ e2]
            have := (g1 i (by omega)).1
            omega
        · rw [va_up_ne _ _ e1, va_up_ne _ _ (show i ≠ k by omega)]
          exact g2 i j hij (by omega)
      · have e1 : j ≠ k := by omega
        exact ⟨va_up_ne _ _ e1, va_up_ne _ _ e1, va_up_ne _ _ e1⟩
    · exact ⟨Nat.le_refl _, by omega, g1, g2, fun j _ => ⟨rfl, rfl, rfl⟩, fun q1 => by rw [ho] at q1; cases q1⟩
  obtain ⟨h1, h2, h3, h4, h5⟩ := h
  obtain ⟨a0, a1, a2, a3, a4, a5⟩ := one (ea q) (eb q) k k1 ap af tt ac ap1 af1 tt1 ac1 (Or.inl ⟨rfl, rfl⟩) (fun j hj => ⟨by have := (h2 j hj).1; omega, (h2 j hj).2⟩) h5 hl
  obtain ⟨b0, b1, b2, b3, b4, b5⟩ := one (eb q) (ea q) k1 k2 ap1 af1 tt1 ac1 ap2 af2 tt2 ac2 (Or.inr ⟨rfl, rfl⟩) a2 a3 hm
  refine ⟨by omega, b2, fun p hp hn ho => ?_, fun p hp hn ho => ?_, b3⟩
  · rcases Nat.lt_succ_iff_lt_or_eq.mp hp with a | a
    · obtain ⟨j, c1, c2, c3, c4⟩ := h3 p a hn ho
      have d1 := a4 j c1
      have d2 := b4 j (by omega)
      exact ⟨j, by omega, by rw [d2.1, d1.1, c2], by rw [d2.2.1, d1.2.1, c3], by rw [d2.2.2, d1.2.2, c4]⟩
    · subst a
      obtain ⟨j, c1, c2, c3, c4⟩ := a5 ho
      have d2 := b4 j c1
      exact ⟨j, by omega, by rw [d2.1, c2], by rw [d2.2.1, c3], by rw [d2.2.2, c4]⟩
  · rcases Nat.lt_succ_iff_lt_or_eq.mp hp with a | a
    · obtain ⟨j, c1, c2, c3, c4⟩ := h4 p a hn ho
      have d1 := a4 j c1
      have d2 := b4 j (by omega)
      exact ⟨j, by omega, by rw [d2.1, d1.1, c2], by rw [d2.2.1, d1.2.1, c3], by rw [d2.2.2, d1.2.2, c4]⟩
    · subst a
      exact b5 ho
theorem su_0 {kd : Nat → Nat} {sT : Nat → Bool} {v x : Nat} (h : kd v = 0) : sT x = (sT x || decide (x = v ∧ kd v ≠ 0)) := by
  rw [decide_eq_false (show ¬ (x = v ∧ kd v ≠ 0) from fun q => q.2 h), Bool.or_false]
theorem su_1 {kd : Nat → Nat} {sT : Nat → Bool} {v x : Nat} (h : ¬ kd v = 0) : va_up sT v true x = (sT x || decide (x = v ∧ kd v ≠ 0)) := by
  by_cases e : x = v
  · subst e
    rw [va_up_self, decide_eq_true (show x = x ∧ kd x ≠ 0 from ⟨rfl, h⟩), Bool.or_true]
  · rw [va_up_ne _ _ e, decide_eq_false (show ¬ (x = v ∧ kd v ≠ 0) from fun q => e q.1), Bool.or_false]
theorem ok_1 {kd : Nat → Nat} {ii oo : Nat → Int32} {sT : Nat → Bool} {e u v : Nat} (h : (sT u || sT v) = true) : okA kd ii oo sT e u v = false := by
  unfold okA; rw [h]; rfl
theorem ok_2 {kd : Nat → Nat} {ii oo : Nat → Int32} {sT : Nat → Bool} {e u v : Nat} (h : (decide (kd v = 0) && decide (v ≠ e)) = true) : okA kd ii oo sT e u v = false := by
  unfold okA; rw [h]; simp
theorem ok_3 {kd : Nat → Nat} {ii oo : Nat → Int32} {sT : Nat → Bool} {e u v : Nat} (h : letB kd ii oo u v = false) : okA kd ii oo sT e u v = false := by
  unfold okA; rw [h]; simp
theorem ok_4 {kd : Nat → Nat} {ii oo : Nat → Int32} {sT : Nat → Bool} {e u v : Nat} (h1 : (sT u || sT v) = false) (h2 : (decide (kd v = 0) && decide (v ≠ e)) = false) (h : letB kd ii oo u v = true) : okA kd ii oo sT e u v = true := by
  unfold okA; rw [h, h1, h2]; rfl
theorem Laid_le {ok : Bool} {c p u v k : Nat} {ap af tt ac : Nat → Nat} {k' : Nat} {ap' af' tt' ac' : Nat → Nat} (h : Laid ok c p u v k ap af tt ac k' ap' af' tt' ac') : k' ≤ k + 1 := by
  rcases h with ⟨-, h, -⟩ | ⟨-, h, -⟩ <;> omega

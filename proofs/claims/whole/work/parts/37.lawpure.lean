/-! the law's own state: what holds between two calls -/
def Inv0 (n : Nat) (kd : Nat → Nat) (em br : Nat → Bool) (np : Nat) (ea eb li : Nat → Nat) (rn : Nat → Bool) : Prop :=
  n ≤ 48 ∧ np ≤ 96 ∧ (∀ j, kd j < 3) ∧ (∀ j, j < np → ea j < n) ∧ (∀ j, j < np → eb j < n) ∧ (∀ j, j < np → 1 ≤ li j ∧ li j ≤ 1000000000) ∧ (∀ j, j < np → ea j ≠ eb j) ∧ (∀ j, n ≤ j → em j = false ∧ br j = false) ∧ (∀ j, np ≤ j → rn j = false) ∧ ∀ j, em j = true → kd j = 0
def WOk (n : Nat) (kd : Nat → Nat) (np : Nat) (ea eb li : Nat → Nat) (x : Wy) : Prop :=
  (∀ p ∈ x.2.2.2.2.2.2.1, p < np) ∧ (∀ v ∈ x.2.2.2.2.2.2.2, v < n) ∧ x.2.2.2.2.2.2.1.length < 48 ∧ 1 ≤ x.2.2.2.2.2.2.1.length ∧ x.2.2.2.2.2.2.2.length = x.2.2.2.2.2.2.1.length + 1 ∧
  (∀ j, j < x.2.2.2.2.2.2.1.length → (x.2.2.2.2.2.2.2.getD j 0 = ea (x.2.2.2.2.2.2.1.getD j 0) ∧ x.2.2.2.2.2.2.2.getD (j + 1) 0 = eb (x.2.2.2.2.2.2.1.getD j 0)) ∨ (x.2.2.2.2.2.2.2.getD j 0 = eb (x.2.2.2.2.2.2.1.getD j 0) ∧ x.2.2.2.2.2.2.2.getD (j + 1) 0 = ea (x.2.2.2.2.2.2.1.getD j 0))) ∧
  x.2.2.2.2.2.1 = sumP li x.2.2.2.2.2.2.1 x.2.2.2.2.2.2.1.length ∧ x.2.2.2.1 = x.2.2.2.2.2.2.2.getD 0 0 ∧ x.2.2.2.1 < n ∧ x.2.2.2.2.1 < n ∧ kd x.2.2.2.1 = 0 ∧ kd x.2.2.2.2.1 = 0 ∧ x.2.2.2.1 ≠ x.2.2.2.2.1
def WRel (L : List Wy) (wp wl wf wt : Nat → Nat) : Prop := ∀ i x, L[i]? = some x → wl i = x.2.2.2.2.2.2.1.length ∧ (∀ j, j < x.2.2.2.2.2.2.1.length → wp (i * 48 + j) = x.2.2.2.2.2.2.1.getD j 0) ∧ wf i = x.2.2.2.1 ∧ wt i = x.2.2.2.2.1
def LInv (n : Nat) (kd : Nat → Nat) (em br : Nat → Bool) (np : Nat) (ea eb li : Nat → Nat) (rn : Nat → Bool) (L : List Wy) (wp wl wf wt : Nat → Nat) : Prop := Inv0 n kd em br np ea eb li rn ∧ L.length ≤ 64 ∧ (∀ x ∈ L, WOk n kd np ea eb li x) ∧ WRel L wp wl wf wt
theorem up_lt {α : Type} {f : Nat → α} {n j : Nat} {v : α} (h : j < n) : va_up f n v j = f j := va_up_ne _ _ (by omega)
theorem sumP_congr {li li' : Nat → Nat} {pl : List Nat} (h : ∀ p ∈ pl, li' p = li p) : ∀ k, k ≤ pl.length → sumP li' pl k = sumP li pl k
  | 0, _ => rfl
  | k + 1, hk => by
    show sumP li' pl k + li' (pl.getD k 0) = sumP li pl k + li (pl.getD k 0)
    rw [sumP_congr h k (by omega), h _ (gD_mem (by omega))]
section LP
variable {n : Nat} {kd : Nat → Nat} {em br : Nat → Bool} {np : Nat} {ea eb li : Nat → Nat} {rn : Nat → Bool} {L : List Wy} {wp wl wf wt : Nat → Nat}
theorem LInv_thing {k0 : Nat} {b0 : Bool} (h : LInv n kd em br np ea eb li rn L wp wl wf wt) (hn : n < 48) (hk : k0 < 3) (hb : b0 = true → k0 = 0) : LInv (n + 1) (va_up kd n k0) (va_up em n b0) br np ea eb li rn L wp wl wf wt := by
  obtain ⟨⟨h1, h2, h3, h4, h5, h6, h7, h8, h9, h10⟩, g1, g2, g3⟩ := h
  refine ⟨⟨by omega, h2, fun j => ?_, fun j hj => by have := h4 j hj; omega, fun j hj => by have := h5 j hj; omega, h6, h7, fun j hj => ?_, h9, fun j hj => ?_⟩, g1, fun x hx => ?_, g3⟩
  · by_cases e : j = n
    · rw [e, va_up_self]; exact hk
    · rw [va_up_ne _ _ e]; exact h3 j
  · rw [va_up_ne _ _ (show j ≠ n by omega)]
    exact h8 j (by omega)
  · by_cases e : j = n
    · rw [e, va_up_self] at hj ⊢
      exact hb hj
    · rw [va_up_ne _ _ e] at hj ⊢
      exact h10 j hj
  · obtain ⟨a1, a2, a3, a4, a5, a6, a7, a8, a9, a10, a11, a12, a13⟩ := g2 x hx
    exact ⟨a1, fun v hv => by have := a2 v hv; omega, a3, a4, a5, a6, a7, a8, by omega, by omega, by rw [up_lt a9]; exact a11, by rw [up_lt a10]; exact a12, a13⟩
theorem LInv_pipe {i j k : Nat} (h : LInv n kd em br np ea eb li rn L wp wl wf wt) (hi : i < n) (hj : j < n) (hij : i ≠ j) (hk1 : 1 ≤ k) (hk2 : k ≤ 1000000000) (hnp : np < 96) : LInv n kd em br (np + 1) (va_up ea np i) (va_up eb np j) (va_up li np k) rn L wp wl wf wt := by
  obtain ⟨⟨h1, h2, h3, h4, h5, h6, h7, h8, h9, h10⟩, g1, g2, g3⟩ := h
  have cs : ∀ {P : Nat → Prop} (q : Nat), q < np + 1 → P np → (q < np → P q) → P q := fun q hq p1 p2 => by
    rcases Nat.lt_succ_iff_lt_or_eq.mp hq with r | r
    · exact p2 r
    · rw [r]; exact p1
  refine ⟨⟨h1, by omega, h3, fun q hq => ?_, fun q hq => ?_, fun q hq => ?_, fun q hq => ?_, h8, fun q hq => h9 q (by omega), h10⟩, g1, fun x hx => ?_, g3⟩
  · by_cases e : q = np
    · rw [e, va_up_self]; exact hi
    · rw [va_up_ne _ _ e]; exact h4 q (by omega)
  · by_cases e : q = np
    · rw [e, va_up_self]; exact hj
    · rw [va_up_ne _ _ e]; exact h5 q (by omega)
  · by_cases e : q = np
    · rw [e, va_up_self]; exact ⟨hk1, hk2⟩
    · rw [va_up_ne _ _ e]; exact h6 q (by omega)
  · by_cases e : q = np
    · rw [e, va_up_self, va_up_self]; exact hij
    · rw [va_up_ne _ _ e, va_up_ne _ _ e]; exact h7 q (by omega)
  · obtain ⟨a1, a2, a3, a4, a5, a6, a7, a8, a9, a10, a11, a12, a13⟩ := g2 x hx
    refine ⟨fun p hp => by have := a1 p hp; omega, a2, a3, a4, a5, fun q hq => ?_, ?_, a8, a9, a10, a11, a12, a13⟩
    · have := a1 _ (gD_mem hq)
      rw [up_lt this, up_lt this]
      exact a6 q hq
    · rw [a7]
      exact (sumP_congr (fun p hp => up_lt (a1 p hp)) _ (Nat.le_refl _)).symm
theorem LInv_run {p0 : Nat} {b0 : Bool} (h : LInv n kd em br np ea eb li rn L wp wl wf wt) (hp : p0 < np) : LInv n kd em br np ea eb li (va_up rn p0 b0) L wp wl wf wt := by
  obtain ⟨⟨h1, h2, h3, h4, h5, h6, h7, h8, h9, h10⟩, g⟩ := h
  exact ⟨⟨h1, h2, h3, h4, h5, h6, h7, h8, fun j hj => by rw [va_up_ne _ _ (show j ≠ p0 by omega)]; exact h9 j hj, h10⟩, g⟩
theorem LInv_bar {p0 : Nat} {b0 : Bool} (h : LInv n kd em br np ea eb li rn L wp wl wf wt) (hp : p0 < n) : LInv n kd em (va_up br p0 b0) np ea eb li rn L wp wl wf wt := by
  obtain ⟨⟨h1, h2, h3, h4, h5, h6, h7, h8, h9, h10⟩, g⟩ := h
  exact ⟨⟨h1, h2, h3, h4, h5, h6, h7, fun j hj => by rw [va_up_ne _ _ (show j ≠ p0 by omega)]; exact h8 j hj, h9, h10⟩, g⟩
/-- a way that both searches found -/
theorem WOk_new {ii oo : Nat → Int32} {sT sP : Nat → Bool} {u0 e0 : Nat} {w : List (Nat × Nat)} {x : Wy} (h : Inv0 n kd em br np ea eb li rn) (hu : u0 < n) (he : e0 < n) (hku : kd u0 = 0) (hke : kd e0 = 0) (hue : u0 ≠ e0) (hm : mFw n kd ii oo np ea eb li sT sP u0 e0 w) (h1 : x.2.2.2.1 = u0) (h2 : x.2.2.2.2.1 = e0) (h3 : (x.2.2.2.2.2.1, x.2.2.2.2.2.2.1, x.2.2.2.2.2.2.2) = (sumP li (rPl w) (rPl w).length, rPl w, rNd u0 w)) : WOk n kd np ea eb li x := by
  obtain ⟨i1, i2, i3, i4, i5, i6, i7, i8, i9, i10⟩ := h
  obtain ⟨m1, m2, m3, m4, m5⟩ := mFw_ok hm hu i4 i5 i6
  have e1 : x.2.2.2.2.2.1 = sumP li (rPl w) (rPl w).length := congrArg Prod.fst h3
  have e2 : x.2.2.2.2.2.2.1 = rPl w := congrArg (fun z => z.2.1) h3
  have e3 : x.2.2.2.2.2.2.2 = rNd u0 w := congrArg (fun z => z.2.2) h3
  unfold WOk
  rw [e1, e2, e3, h1, h2]
  refine ⟨m1, m2, m3, ?_, m4, m5, rfl, rfl, hu, he, hku, hke, hue⟩
  rw [rPl_len]
  cases w with
  | nil =>
    obtain ⟨-, -, c, -, -, -, h6⟩ := hm
    exact absurd h6 hue
  | cons a r => simp
theorem WRel_push {x : Wy} {wp' wl' wf' wt' : Nat → Nat} (h : WRel L wp wl wf wt) (hL : ∀ y ∈ L, y.2.2.2.2.2.2.1.length < 48) (h1 : wl' L.length = x.2.2.2.2.2.2.1.length) (h2 : ∀ j, j < x.2.2.2.2.2.2.1.length → wp' (L.length * 48 + j) = x.2.2.2.2.2.2.1.getD j 0) (h3 : wf' L.length = x.2.2.2.1) (h4 : wt' L.length = x.2.2.2.2.1) (k1 : ∀ z, z < L.length * 48 → wp' z = wp z) (k2 : ∀ i, i < L.length → wl' i = wl i ∧ wf' i = wf i ∧ wt' i = wt i) : WRel (L ++ [x]) wp' wl' wf' wt' := by
  intro i y hy
  by_cases hi : i < L.length
  · rw [List.getElem?_append_left hi] at hy
    obtain ⟨a1, a2, a3, a4⟩ := h i y hy
    obtain ⟨b1, b2, b3⟩ := k2 i hi
    have hl := hL y (List.mem_of_getElem? hy)
    exact ⟨by rw [b1, a1], fun j hj => by rw [k1 _ (by omega)]; exact a2 j hj, by rw [b2, a3], by rw [b3, a4]⟩
  · have hlt := (List.getElem?_eq_some_iff.mp hy).1
    have e : i = L.length := by simp at hlt; omega
    subst e
    have : x = y := by simpa using hy
    subst this
    exact ⟨h1, h2, h3, h4⟩
theorem WRel_same {wp' wl' wf' wt' : Nat → Nat} (h : WRel L wp wl wf wt) (k1 : ∀ z, wp' z = wp z) (k2 : ∀ i, wl' i = wl i ∧ wf' i = wf i ∧ wt' i = wt i) : WRel L wp' wl' wf' wt' := by
  intro i y hy
  obtain ⟨a1, a2, a3, a4⟩ := h i y hy
  obtain ⟨b1, b2, b3⟩ := k2 i
  exact ⟨by rw [b1, a1], fun j hj => by rw [k1]; exact a2 j hj, by rw [b2, a3], by rw [b3, a4]⟩
theorem LInv_push {x : Wy} {wp' wl' wf' wt' : Nat → Nat} (h : LInv n kd em br np ea eb li rn L wp wl wf wt) (hx : WOk n kd np ea eb li x) (hl : L.length < 64) (h1 : wl' L.length = x.2.2.2.2.2.2.1.length) (h2 : ∀ j, j < x.2.2.2.2.2.2.1.length → wp' (L.length * 48 + j) = x.2.2.2.2.2.2.1.getD j 0) (h3 : wf' L.length = x.2.2.2.1) (h4 : wt' L.length = x.2.2.2.2.1) (k1 : ∀ z, z < L.length * 48 → wp' z = wp z) (k2 : ∀ i, i < L.length → wl' i = wl i ∧ wf' i = wf i ∧ wt' i = wt i) : LInv n kd em br np ea eb li rn (L ++ [x]) wp' wl' wf' wt' := by
  obtain ⟨g0, g1, g2, g3⟩ := h
  refine ⟨g0, by simp; omega, fun y hy => ?_, WRel_push g3 (fun y hy => (g2 y hy).2.2.1) h1 h2 h3 h4 k1 k2⟩
  rcases List.mem_append.mp hy with q | q
  · exact g2 y q
  · rw [List.mem_singleton] at q
    rw [q]; exact hx
theorem cnt_ext {f h : Nat → Bool} : ∀ k, (∀ j, j < k → f j = h j) → cntN f k = cntN h k
  | 0, _ => rfl
  | k + 1, q => by
    show cntN f k + (if f k then 1 else 0) = cntN h k + (if h k then 1 else 0)
    rw [cnt_ext k (fun j hj => q j (by omega)), q k (by omega)]
theorem cnt_more {f : Nat → Bool} {k : Nat} (h : ∀ j, k ≤ j → f j = false) : ∀ d, cntN f (k + d) = cntN f k
  | 0 => rfl
  | d + 1 => by
    show cntN f (k + d) + (if f (k + d) then 1 else 0) = cntN f k
    rw [cnt_more h d, h _ (by omega)]
    rfl
theorem told_eq (h : Inv0 n kd em br np ea eb li rn) (wn : Nat) (c6 : Nat) (x : Int32) : toldF n np wn (cntN br 48) (cntN rn 96) (cntN em 48) c6 x = toldF n np wn (cntN br n) (cntN rn np) (cntN (fun v => decide (kd v = 0) && em v) n) c6 x := by
  obtain ⟨h1, h2, h3, h4, h5, h6, h7, h8, h9, h10⟩ := h
  have e1 : cntN br 48 = cntN br n := by
    have := cnt_more (f := br) (k := n) (fun j hj => (h8 j hj).2) (48 - n)
    rwa [show n + (48 - n) = 48 by omega] at this
  have e2 : cntN rn 96 = cntN rn np := by
    have := cnt_more (f := rn) (k := np) h9 (96 - np)
    rwa [show np + (96 - np) = 96 by omega] at this
  have e3 : cntN em 48 = cntN (fun v => decide (kd v = 0) && em v) n := by
    have := cnt_more (f := em) (k := n) (fun j hj => (h8 j hj).1) (48 - n)
    rw [show n + (48 - n) = 48 by omega] at this
    rw [this]
    refine cnt_ext n (fun j _ => ?_)
    cases q : em j with
    | false => rw [Bool.and_false]
    | true => rw [decide_eq_true (h10 j q)]; rfl
  rw [e1, e2, e3]
end LP

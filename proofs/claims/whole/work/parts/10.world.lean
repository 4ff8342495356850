/-! THE CLASS'S WORLD: 23 fixed cells at a 0 .. a 22, then the rest, then the ways that were made -/
section TI
variable {p : Program} {l : Launch} {e : Env} {R : Room} {s : State} {m : MethodId} {args : Array Value} {below : List Frame} {meth : Method} {c : Code} {H : Heap} {locs : List Loc} {cells slots : Nat} {Q : State → Prop} {pc : Nat} {ls : Array Slot} {rest : List Value}
theorem ti {x v : Int32} (h : x = v) (k : W p l e R s m args below meth c H locs cells slots Q (F0 m pc ls (.int v :: rest))) : W p l e R s m args below meth c H locs cells slots Q (F0 m pc ls (.int x :: rest)) := by
  subst h
  exact k
theorem tl {x v : Int64} (h : x = v) (k : W p l e R s m args below meth c H locs cells slots Q (F0 m pc ls (.long v :: rest))) : W p l e R s m args below meth c H locs cells slots Q (F0 m pc ls (.long x :: rest)) := by
  subst h
  exact k
end TI
theorem inc1 (k : Nat) : nI k + Int32.ofInt 1 = nI (k + 1) := nI_1 k
theorem incn (k n : Nat) : nI k + Int32.ofInt (n : Int) = nI (k + n) := by
  rw [← nI_add k n]
  rfl
theorem dec1 {k : Nat} (h : 1 ≤ k) : nI k + Int32.ofInt (-1) = nI (k - 1) := by
  have e := pk_m1 (k - 1)
  rw [Nat.sub_add_cancel h] at e
  exact e
/-- a way as the class keeps it: the addresses of its rows and of itself, its ends, its litres, its pipes, its things -/
abbrev Wy : Type := Nat × Nat × Nat × Nat × Nat × Nat × List Nat × List Nat
def wy_c (t : Nat → ClassId) (x : Wy) : va_W := [(x.1, .inl (t 0, x.2.2.2.2.2.2.1.length, .inl (fun j => nI (x.2.2.2.2.2.2.1.getD j 0)))), (x.2.1, .inl (t 0, x.2.2.2.2.2.2.2.length, .inl (fun j => nI (x.2.2.2.2.2.2.2.getD j 0)))), (x.2.2.1, .inr (4, [.int (nI x.2.2.2.1), .int (nI x.2.2.2.2.1), .long (lN x.2.2.2.2.2.1), .ref x.1, .ref x.2.1]))]
def wy_W (t : Nat → ClassId) (L : List Wy) : va_W := L.flatMap (wy_c t)
abbrev tyL (t : Nat → ClassId) : List (ClassId × FieldType) := [(t 0, .int), (t 1, .boolean), (t 2, .long), (t 3, .object R_FW)]
def wW (a : Nat → Nat) (t : Nat → ClassId) (n : Nat) (kd : Nat → Nat) (em : Nat → Bool) (br : Nat → Bool) (ii : Nat → Int32) (oo : Nat → Int32) (np : Nat) (ea : Nat → Nat) (eb : Nat → Nat) (li : Nat → Nat) (rn : Nat → Bool) (wa : Nat → Option Nat) (wn : Nat) (sT : Nat → Bool) (sP : Nat → Bool) (ak : Nat) (ap : Nat → Nat) (af : Nat → Nat) (tt : Nat → Nat) (ac : Nat → Nat) (ct : Nat → Nat) (rp : Nat → Nat) (rt : Nat → Nat) (rest : va_W) (L : List Wy) : va_W := [(a 0, .inr (0, [.ref (a 1), .ref (a 2), .ref (a 3), .ref (a 4), .int (nI wn)])), (a 1, .inr (1, [.ref (a 5), .ref (a 6), .ref (a 7), .ref (a 8), .ref (a 9), .int (nI n)])), (a 2, .inr (2, [.ref (a 10), .ref (a 11), .ref (a 12), .ref (a 13), .int (nI np)])), (a 3, .inr (3, [.ref (a 1), .ref (a 2), .ref (a 14), .ref (a 15), .ref (a 16), .ref (a 17), .ref (a 18), .ref (a 19), .int (nI ak), .ref (a 20), .ref (a 21), .ref (a 22)])), (a 4, .inl (t 3, 64, .inr (.inr (.inr (.inr wa))))), (a 5, .inl (t 0, 48, .inl (fun j => nI (kd j)))), (a 6, .inl (t 1, 48, .inl (fun j => bI (em j)))), (a 7, .inl (t 1, 48, .inl (fun j => bI (br j)))), (a 8, .inl (t 0, 48, .inl ii)), (a 9, .inl (t 0, 48, .inl oo)), (a 10, .inl (t 0, 96, .inl (fun j => nI (ea j)))), (a 11, .inl (t 0, 96, .inl (fun j => nI (eb j)))), (a 12, .inl (t 2, 96, .inr (.inl (fun j => lN (li j))))), (a 13, .inl (t 1, 96, .inl (fun j => bI (rn j)))), (a 14, .inl (t 1, 48, .inl (fun j => bI (sT j)))), (a 15, .inl (t 1, 96, .inl (fun j => bI (sP j)))), (a 16, .inl (t 0, 192, .inl (fun j => nI (ap j)))), (a 17, .inl (t 0, 192, .inl (fun j => nI (af j)))), (a 18, .inl (t 0, 192, .inl (fun j => nI (tt j)))), (a 19, .inl (t 2, 192, .inr (.inl (fun j => lN (ac j))))), (a 20, .inl (t 2, 48, .inr (.inl (fun j => lN (ct j))))), (a 21, .inl (t 0, 48, .inl (fun j => nI (rp j)))), (a 22, .inl (t 0, 48, .inl (fun j => nI (rt j))))] ++ (rest ++ wy_W t L)
/-! RULES: a cut at a place where paths meet, loops -/
section RULES
variable {p : Program} {l : Launch} {e : Env} {R : Room} {s : State} {m : MethodId} {args : Array Value} {below : List Frame} {meth : Method} {c : Code} {H : Heap} {locs : List Loc} {cells slots : Nat} {Q : State → Prop}
variable {nL : Nat} {g : va_G} {cl : List vw_C} {A : Nat → Prop} {H0 : Heap}
theorem wcut {g1 g2 : JFrame} (tail : W p l e R s m args below meth c H locs cells slots Q g2) (k : W p l e R s m args below meth c H locs cells slots Q g2 → W p l e R s m args below meth c H locs cells slots Q g1) : W p l e R s m args below meth c H locs cells slots Q g1 := k tail
/-- a cut for any locals that hold lv' -/
theorem wcutL {g1 : JFrame} {pc' : Nat} {st' : List Value} {lv' : List (Nat × Value)} (tail : ∀ ls' : Array Slot, lv_has ls' nL lv' → W p l e R s m args below meth c H locs cells slots Q (F0 m pc' ls' st')) (k : (∀ ls' : Array Slot, lv_has ls' nL lv' → W p l e R s m args below meth c H locs cells slots Q (F0 m pc' ls' st')) → W p l e R s m args below meth c H locs cells slots Q g1) : W p l e R s m args below meth c H locs cells slots Q g1 := k tail
/-- a cut for any world out of a family, any locals -/
theorem wcutM {σ : Type} {g1 : JFrame} {pc' : Nat} {st' : σ → List Value} {lv' : σ → List (Nat × Value)} {w' : σ → va_W} {inv : σ → Prop} (tail : ∀ (x : σ), inv x → ∀ (H' : Heap) (locs' : List Loc) (ls' : Array Slot), wB g cl A H0 (w' x) H' locs' → lv_has ls' nL (lv' x) → W p l e R s m args below meth c H' locs' cells slots Q (F0 m pc' ls' (st' x))) (k : (∀ (x : σ), inv x → ∀ (H' : Heap) (locs' : List Loc) (ls' : Array Slot), wB g cl A H0 (w' x) H' locs' → lv_has ls' nL (lv' x) → W p l e R s m args below meth c H' locs' cells slots Q (F0 m pc' ls' (st' x))) → W p l e R s m args below meth c H locs cells slots Q g1) : W p l e R s m args below meth c H locs cells slots Q g1 := k tail
/-- a loop that only reads -/
theorem wlR {σ : Type} {head : Nat} (μ : σ → Nat) (inv : σ → Prop) (lvF : σ → List (Nat × Value)) (step : ∀ s0 : σ, inv s0 → (∀ s1 : σ, inv s1 → μ s1 < μ s0 → ∀ ls1 : Array Slot, lv_has ls1 nL (lvF s1) → W p l e R s m args below meth c H locs cells slots Q (F0 m head ls1 [])) → ∀ ls : Array Slot, lv_has ls nL (lvF s0) → W p l e R s m args below meth c H locs cells slots Q (F0 m head ls [])) (s0 : σ) (h0 : inv s0) {ls : Array Slot} (hl : lv_has ls nL (lvF s0)) : W p l e R s m args below meth c H locs cells slots Q (F0 m head ls []) := by
  have key : ∀ (k : Nat) (s0 : σ), μ s0 < k → inv s0 → ∀ ls : Array Slot, lv_has ls nL (lvF s0) → W p l e R s m args below meth c H locs cells slots Q (F0 m head ls []) := by
    intro k
    induction k with
    | zero => intro s0 h; exact absurd h (Nat.not_lt_zero _)
    | succ k ih =>
      intro s0 h hi ls hl
      exact step s0 hi (fun s1 h1 h2 ls1 hl1 => ih s1 (by omega) h1 ls1 hl1) ls hl
  exact key (μ s0 + 1) s0 (Nat.lt_succ_self _) h0 ls hl
/-- a loop that writes in the world -/
theorem wlM {σ : Type} {head : Nat} (μ : σ → Nat) (inv : σ → Prop) (wv : σ → va_W) (lvF : σ → List (Nat × Value)) (step : ∀ s0 : σ, inv s0 → (∀ s1 : σ, inv s1 → μ s1 < μ s0 → ∀ (H1 : Heap) (locs1 : List Loc) (ls1 : Array Slot), wB g cl A H0 (wv s1) H1 locs1 → lv_has ls1 nL (lvF s1) → W p l e R s m args below meth c H1 locs1 cells slots Q (F0 m head ls1 [])) → ∀ (H : Heap) (locs : List Loc) (ls : Array Slot), wB g cl A H0 (wv s0) H locs → lv_has ls nL (lvF s0) → W p l e R s m args below meth c H locs cells slots Q (F0 m head ls [])) (s0 : σ) (h0 : inv s0) {ls : Array Slot} (hB : wB g cl A H0 (wv s0) H locs) (hl : lv_has ls nL (lvF s0)) : W p l e R s m args below meth c H locs cells slots Q (F0 m head ls []) := by
  have key : ∀ (k : Nat) (s0 : σ), μ s0 < k → inv s0 → ∀ (H : Heap) (locs : List Loc) (ls : Array Slot), wB g cl A H0 (wv s0) H locs → lv_has ls nL (lvF s0) → W p l e R s m args below meth c H locs cells slots Q (F0 m head ls []) := by
    intro k
    induction k with
    | zero => intro s0 h; exact absurd h (Nat.not_lt_zero _)
    | succ k ih =>
      intro s0 h hi H locs ls hB hl
      exact step s0 hi (fun s1 h1 h2 H1 locs1 ls1 hB1 hl1 => ih s1 (by omega) h1 H1 locs1 ls1 hB1 hl1) H locs ls hB hl
  exact key (μ s0 + 1) s0 (Nat.lt_succ_self _) h0 H locs ls hB hl
end RULES
theorem nI_ne {a b : Nat} (ha : a < 2 ^ 31) (hb : b < 2 ^ 31) : ¬ nI a = nI b ↔ a ≠ b := not_congr (nI_eq ha hb)
theorem nI_nle' {a b : Nat} (ha : a < 2 ^ 31) (hb : b < 2 ^ 31) : ¬ nI a ≤ nI b ↔ b < a := by rw [nI_leI ha hb]; omega
theorem nI_nlt' {a b : Nat} (ha : a < 2 ^ 31) (hb : b < 2 ^ 31) : ¬ nI a < nI b ↔ b ≤ a := by rw [nI_ltI ha hb]; omega
/-! pure words of the class's small questions -/
def hasB (n : Nat) (x : Int32) : Bool := decide (0 ≤ x.toInt ∧ x.toInt < (n : Int))
theorem hasB_neg {n : Nat} {x : Int32} (h : x < 0) : hasB n x = false := by
  have h1 := Int32.lt_iff_toInt_lt.mp h
  rw [Int32.toInt_zero] at h1
  exact decide_eq_false (fun q => by omega)
theorem hasB_ge {n : Nat} {x : Int32} (hn : n < 2 ^ 31) (h : nI n ≤ x) : hasB n x = false := by
  have h1 := Int32.le_iff_toInt_le.mp h
  rw [nI_toInt hn] at h1
  exact decide_eq_false (fun q => by omega)
theorem hasB_t {n : Nat} {x : Int32} (hn : n < 2 ^ 31) (h0 : ¬ x < 0) (h : ¬ nI n ≤ x) : hasB n x = true := by
  have h2 : ¬ x.toInt < (0 : Int32).toInt := fun q => h0 (Int32.lt_iff_toInt_lt.mpr q)
  have h1 : ¬ (nI n).toInt ≤ x.toInt := fun q => h (Int32.le_iff_toInt_le.mpr q)
  rw [nI_toInt hn] at h1
  rw [Int32.toInt_zero] at h2
  exact decide_eq_true ⟨by omega, by omega⟩
theorem hasB_ex {n : Nat} {x : Int32} (hn : n < 2 ^ 31) (h : hasB n x = true) : ∃ j, j < n ∧ x = nI j := by
  have h1 := of_decide_eq_true h
  exact vp_in_of (vp_in_iff.mpr h1) hn
theorem hasB_nI {n j : Nat} (hj : j < 2 ^ 31) : hasB n (nI j) = decide (j < n) := by
  unfold hasB
  rw [nI_toInt hj]
  by_cases h : j < n
  · rw [decide_eq_true h]
    exact decide_eq_true ⟨by omega, by omega⟩
  · rw [decide_eq_false h]
    exact decide_eq_false (fun q => by omega)
/-- some number below k has f -/
def anyN (f : Nat → Bool) : Nat → Bool
  | 0 => false
  | k + 1 => anyN f k || f k
theorem anyN_f {f : Nat → Bool} : ∀ {k : Nat}, anyN f k = false ↔ ∀ j, j < k → f j = false
  | 0 => ⟨fun _ j h => absurd h (Nat.not_lt_zero _), fun _ => rfl⟩
  | k + 1 => by
    unfold anyN
    rw [Bool.or_eq_false_iff, anyN_f (k := k)]
    constructor
    · intro h j hj
      rcases Nat.lt_succ_iff_lt_or_eq.mp hj with h1 | h1
      · exact h.1 j h1
      · rw [h1]; exact h.2
    · intro h
      exact ⟨fun j hj => h j (by omega), h k (by omega)⟩
theorem anyN_t {f : Nat → Bool} {k : Nat} : anyN f k = true ↔ ∃ j, j < k ∧ f j = true := by
  constructor
  · intro h
    rcases Classical.em (∃ j, j < k ∧ f j = true) with q | q
    · exact q
    · have h2 : anyN f k = false := anyN_f.mpr (fun j hj => by
        cases hf : f j with
        | false => rfl
        | true => exact absurd ⟨j, hj, hf⟩ q)
      rw [h2] at h
      cases h
  · rintro ⟨j, hj, hf⟩
    cases h : anyN f k with
    | true => rfl
    | false => rw [anyN_f.mp h j hj] at hf; cases hf
/-- how many numbers below k have f -/
def cntN (f : Nat → Bool) : Nat → Nat
  | 0 => 0
  | k + 1 => cntN f k + (if f k then 1 else 0)
theorem cntN_le (f : Nat → Bool) : ∀ k, cntN f k ≤ k
  | 0 => Nat.le_refl _
  | k + 1 => by
    have := cntN_le f k
    unfold cntN
    split <;> omega
theorem cntN_t {f : Nat → Bool} {k : Nat} (h : f k = true) : cntN f (k + 1) = cntN f k + 1 := by
  show cntN f k + (if f k then 1 else 0) = _
  rw [h]; rfl
theorem cntN_n {f : Nat → Bool} {k : Nat} (h : f k = false) : cntN f (k + 1) = cntN f k := by
  show cntN f k + (if f k then 1 else 0) = _
  rw [h]; rfl
def letB (kd : Nat → Nat) (ii oo : Nat → Int32) (u v : Nat) : Bool := (decide (kd u ≠ 1) || decide (oo u = nI v)) && (decide (kd v ≠ 1) || decide (ii v = nI u))
theorem lb_1 {x : Nat} {b : Bool} (h : ¬ nI x = nI 1) : (decide (x ≠ 1) || b) = true := by
  have e : x ≠ 1 := fun q => h (by rw [q])
  rw [decide_eq_true e]; rfl
theorem lb_2 {b : Bool} {x y : Int32} (h : x = y) : (b || decide (x = y)) = true := by
  rw [decide_eq_true h, Bool.or_true]
theorem lb_3 {k : Nat} {x y : Int32} (hk : k < 2 ^ 31) (h : nI k = nI 1) (h2 : ¬ x = y) : (decide (k ≠ 1) || decide (x = y)) = false := by
  have e : k = 1 := (nI_eq hk (by decide)).mp h
  have e2 : ¬ (k ≠ 1) := fun q => q e
  rw [decide_eq_false h2, decide_eq_false e2]; rfl
def isK (n : Nat) (kd : Nat → Nat) (x : Int32) (w : Nat) : Bool := hasB n x && decide (kd x.toNatClampNeg = w)
theorem isK_n {n : Nat} {kd : Nat → Nat} {x : Int32} {w : Nat} (h : hasB n x = false) : isK n kd x w = false := by
  unfold isK; rw [h]; rfl
theorem isK_j {n : Nat} {kd : Nat → Nat} {j w : Nat} (hj : j < n) (_ : kd j < 2 ^ 31) (hn : n < 2 ^ 31) : isK n kd (nI j) w = decide (kd j = w) := by
  unfold isK
  rw [hasB_nI (by omega), decide_eq_true hj, nI_clamp (by omega)]; rfl
theorem isK_ex {n : Nat} {kd : Nat → Nat} {x : Int32} {w : Nat} (hn : n < 2 ^ 31) (h : isK n kd x w = true) : ∃ j, j < n ∧ x = nI j ∧ kd j = w := by
  unfold isK at h
  rw [Bool.and_eq_true] at h
  obtain ⟨j, hj, e⟩ := hasB_ex hn h.1
  have h2 := of_decide_eq_true h.2
  rw [e, nI_clamp (by omega)] at h2
  exact ⟨j, hj, e, h2⟩
def endB (ea eb : Nat → Nat) (v p : Nat) : Bool := decide (ea p = v) || decide (eb p = v)
theorem endB_1 {ea eb : Nat → Nat} {v p : Nat} (h : ea p = v) : endB ea eb v p = true := by
  unfold endB; rw [decide_eq_true h]; rfl
theorem endB_2 {ea eb : Nat → Nat} {v p : Nat} (h : eb p = v) : endB ea eb v p = true := by
  unfold endB; rw [decide_eq_true h, Bool.or_true]
theorem endB_f {ea eb : Nat → Nat} {v p : Nat} (h : ¬ ea p = v) (h2 : ¬ eb p = v) : endB ea eb v p = false := by
  unfold endB; rw [decide_eq_false h, decide_eq_false h2]; rfl
def joinB (ea eb : Nat → Nat) (x y : Int32) (p : Nat) : Bool := (decide (nI (ea p) = x) && decide (nI (eb p) = y)) || (decide (nI (ea p) = y) && decide (nI (eb p) = x))

/-! THE TWO SEARCHES ANSWER ALIKE -/
section EQV
variable {n : Nat} {kd : Nat → Nat} {ii oo : Nat → Int32} {np : Nat} {ea eb li : Nat → Nat} {sT sP sT' sP' : Nat → Bool} {u0 e0 : Nat} {k : Nat} {ap af tt ac c1 c2 : Nat → Nat}
theorem okA_of {a b : Nat} (h : okA kd ii oo sT e0 a b = true) : sT a = false ∧ sT b = false ∧ (kd b ≠ 0 ∨ b = e0) ∧ letB kd ii oo a b = true := by
  unfold okA at h
  rw [Bool.and_eq_true, Bool.and_eq_true] at h
  obtain ⟨h1, h2, h3⟩ := h
  have h1' : (sT a || sT b) = false := by simpa using h1
  have h2' : (decide (kd b = 0) && decide (b ≠ e0)) = false := by
    cases hq : (decide (kd b = 0) && decide (b ≠ e0)) with
    | false => rfl
    | true => rw [hq] at h2; cases h2
  rw [Bool.or_eq_false_iff] at h1'
  refine ⟨h1'.1, h1'.2, ?_, h3⟩
  by_cases q : kd b = 0
  · refine Or.inr ?_
    rw [decide_eq_true q, Bool.true_and] at h2'
    have := of_decide_eq_false h2'
    exact Classical.not_not.mp this
  · exact Or.inl q
theorem okA_mk {a b : Nat} (h1 : sT a = false) (h2 : sT b = false) (h3 : kd b ≠ 0 ∨ b = e0) (h4 : letB kd ii oo a b = true) : okA kd ii oo sT e0 a b = true := by
  refine ok_4 (by rw [h1, h2]; rfl) ?_ h4
  rcases h3 with q | q
  · rw [decide_eq_false q]; rfl
  · rw [decide_eq_false (show ¬ (b ≠ e0) from fun z => z q), Bool.and_false]
theorem goB_of {p a b : Nat} (h : goB kd ii oo sT sP p a b = true) : sP p = false ∧ sT a = false ∧ sT b = false ∧ letB kd ii oo a b = true := by
  unfold goB at h
  simp only [Bool.and_eq_true, Bool.not_eq_true'] at h
  exact ⟨h.1.1, h.1.2.1, h.1.2.2, h.2⟩
theorem valv0 {v : Nat} (h : kd v = 0) : valv kd v = 0 := if_neg (by omega)
theorem valv1 (v : Nat) : valv kd v ≤ 1 := by unfold valv; split <;> omega
/-- an arc of the class's search, from an open pipe -/
theorem arc_ex (hA : Arcs kd ii oo ea eb li sT sP e0 np k ap af tt ac) {p a b : Nat} (hp : p < np) (hab : (a = ea p ∧ b = eb p) ∨ (a = eb p ∧ b = ea p)) (hs : sP p = false) (ho : okA kd ii oo sT e0 a b = true) : ∃ j, j < k ∧ ap j = p ∧ af j = a ∧ tt j = b ∧ ac j = 64 * li p + valv kd b := by
  obtain ⟨-, h2, h3, h4, -⟩ := hA
  rcases hab with ⟨q1, q2⟩ | ⟨q1, q2⟩
  · obtain ⟨j, a1, a2, a3, a4⟩ := h3 p hp hs (by rw [← q1, ← q2]; exact ho)
    refine ⟨j, a1, a2, by rw [a3, q1], by rw [a4, q2], ?_⟩
    rw [(h2 j a1).2.2.2.2, a2, a4, q2]
  · obtain ⟨j, a1, a2, a3, a4⟩ := h4 p hp hs (by rw [← q1, ← q2]; exact ho)
    refine ⟨j, a1, a2, by rw [a3, q1], by rw [a4, q2], ?_⟩
    rw [(h2 j a1).2.2.2.2, a2, a4, q2]
theorem ref_to_class (hA : Arcs kd ii oo ea eb li sT sP e0 np k ap af tt ac) (hsT : ∀ v, v < n → sT v = sT' v) (hsP : ∀ p, p < np → sP p = sP' p) (hea : ∀ j, j < np → ea j < n) (heb : ∀ j, j < np → eb j < n) (he : kd e0 = 0) : ∀ (w : List (Nat × Nat)) (v : Nat), gw (rE kd ii oo np ea eb sT' sP' u0 e0) e0 v w → ∃ W, bf_walk k af tt e0 v W ∧ bf_cost ac W + valv kd v = gc (fun p a _ => wtR kd li p a) v w
  | [], v, hw => by
    have e : v = e0 := hw
    exact ⟨[], e, by rw [e]; show 0 + valv kd e0 = 0; rw [valv0 he]⟩
  | x :: r, v, hw => by
    obtain ⟨W', g1, g2⟩ := ref_to_class hA hsT hsP hea heb he r x.2 hw.2
    obtain ⟨h1, h2, h3⟩ := hw.1
    have hl := rE_lt hea heb hw.1
    obtain ⟨e1, e2, e3, e4⟩ := enB_of h3
    obtain ⟨f1, f2, f3, f4⟩ := goB_of e4
    obtain ⟨j, a1, a2, a3, a4, a5⟩ := arc_ex hA h1 h2 (by rw [hsP _ h1]; exact f1) (okA_mk (by rw [hsT _ hl.1]; exact f2) (by rw [hsT _ hl.2]; exact f3) e2 f4)
    refine ⟨j :: W', ⟨a1, a3, by rw [a4]; exact g1⟩, ?_⟩
    show ac j + bf_cost ac W' + valv kd v = wtR kd li x.1 v + gc _ x.2 r
    rw [a5, ← g2]
    unfold wtR
    omega
/-- the things that matter to a search -/
def Rel (n : Nat) (kd : Nat → Nat) (u0 e0 v : Nat) : Prop := v < n ∧ (kd v ≠ 0 ∨ v = u0 ∨ v = e0)
theorem class_to_ref (hA : Arcs kd ii oo ea eb li sT sP e0 np k ap af tt ac) (hsT : ∀ v, v < n → sT v = sT' v) (hsP : ∀ p, p < np → sP p = sP' p) (hea : ∀ j, j < np → ea j < n) (heb : ∀ j, j < np → eb j < n) (he : kd e0 = 0) : ∀ (W : List Nat) (v : Nat), Rel n kd u0 e0 v → bf_fw k af tt ac c1 e0 v W → ∃ w, gw (rE kd ii oo np ea eb sT' sP' u0 e0) e0 v w ∧ gc (fun p a _ => wtR kd li p a) v w = bf_cost ac W + valv kd v
  | [], v, _, hw => by
    have e : v = e0 := hw
    exact ⟨[], e, by rw [e]; show 0 = 0 + valv kd e0; rw [valv0 he]⟩
  | j :: W', v, hv, hw => by
    obtain ⟨h1, h2, h3, -, h5⟩ := hw
    obtain ⟨a1, a2, a3, a4, a5⟩ := hA.2.1 j h2
    obtain ⟨o1, o2, o3, o4⟩ := okA_of a4
    have hb : tt j < n := by
      have b1 := hea _ a1
      have b2 := heb _ a1
      rcases a3 with q | q <;> omega
    have hvj : af j = v := h3.1
    obtain ⟨w', g1, g2⟩ := class_to_ref hA hsT hsP hea heb he W' (tt j) ⟨hb, o3.elim Or.inl (fun q => Or.inr (Or.inr q))⟩ h5
    have hgo : goB kd ii oo sT' sP' (ap j) v (tt j) = true := go_5 (by rw [← hsP _ a1]; exact a2) (by rw [← hsT _ hv.1, ← hvj]; exact o1) (by rw [← hsT _ hb]; exact o2) (by rw [← hvj]; exact o4)
    have hrel : kd v ≠ 0 ∨ v = u0 := by
      rcases hv.2 with q | q | q
      · exact Or.inl q
      · exact Or.inr q
      · exact absurd q h1
    refine ⟨(ap j, tt j) :: w', ⟨⟨a1, by rw [← hvj]; exact a3, enB_mk hrel o3 h1 hgo⟩, g1⟩, ?_⟩
    show wtR kd li (ap j) v + gc _ (tt j) w' = ac j + bf_cost ac W' + valv kd v
    rw [g2, a5]
    unfold wtR
    omega
theorem costs_A (hA : Arcs kd ii oo ea eb li sT sP e0 np k ap af tt ac) (hsT : ∀ v, v < n → sT v = sT' v) (hsP : ∀ p, p < np → sP p = sP' p) (hea : ∀ j, j < np → ea j < n) (heb : ∀ j, j < np → eb j < n) (he : kd e0 = 0) (hx : bf_ex k af tt ac e0 c1) (hr : RI n kd ii oo np ea eb li sT' sP' u0 e0 c2) {v : Nat} (hv : v < n) (hc : c2 v ≠ far2) : c1 v ≠ bf_far ∧ c1 v + valv kd v ≤ c2 v := by
  obtain ⟨w, g1, g2⟩ := hr.2.2 v hv hc
  obtain ⟨W, g3, g4⟩ := ref_to_class hA hsT hsP hea heb he w v g1
  have h1 := hx.2.2 v W g3
  have h2 := hr.1 v hv
  have h3 : c2 v ≤ 1152921504606846976 := h2
  refine ⟨fun q => ?_, by omega⟩
  have : c1 v = 4611686018427387904 := q
  omega
theorem costs_B (hA : Arcs kd ii oo ea eb li sT sP e0 np k ap af tt ac) (hsT : ∀ v, v < n → sT v = sT' v) (hsP : ∀ p, p < np → sP p = sP' p) (hn : n ≤ 48) (hnp : np ≤ 96) (hea : ∀ j, j < np → ea j < n) (heb : ∀ j, j < np → eb j < n) (hli : ∀ j, j < np → 1 ≤ li j ∧ li j ≤ 1000000000) (he : kd e0 = 0) (hx : bf_ex k af tt ac e0 c1) (ht : c1 e0 = 0) (hr : RI n kd ii oo np ea eb li sT' sP' u0 e0 c2) (hf : rFix kd ii oo np ea eb li sT' sP' u0 e0 c2) {v : Nat} (hv : Rel n kd u0 e0 v) (hc : c1 v ≠ bf_far) : c2 v ≠ far2 ∧ c2 v ≤ c1 v + valv kd v := by
  obtain ⟨b1, b2, b3, b4, b5, b6⟩ := Arcs_bd hA hnp hn hea heb hli
  obtain ⟨W, hW⟩ := bf_fw_ex hx b5 (c1 v + 1) v (by omega) hc
  have hlen := bf_fw_len hx ht b5 b3 (show v < 48 by have := hv.1; omega) hW
  have hcost := bf_tw_cost ht W v (bf_fw_tw W v hW)
  have hb := bf_cost_le b4 W v (bf_tw_walk W v (bf_fw_tw W v hW))
  obtain ⟨w, g1, g2⟩ := class_to_ref hA hsT hsP hea heb he W v hv hW
  have h1 := rMin hea heb hr hf w v hv.1 g1
  have h2 : W.length * 100000000000 ≤ 48 * 100000000000 := Nat.mul_le_mul_right _ (by omega)
  have h3 := valv1 (kd := kd) v
  refine ⟨fun q => ?_, by omega⟩
  have : c2 v = 1152921504606846976 := q
  omega
theorem walk_last : ∀ (W : List Nat) (v : Nat), bf_walk k af tt e0 v W → v ≠ e0 → ∃ j, j < k ∧ tt j = e0
  | [], v, h, hne => absurd h hne
  | j :: r, v, h, _ => by
    by_cases q : tt j = e0
    · exact ⟨j, h.1, q⟩
    · exact walk_last r (tt j) h.2.2 q
theorem LW_no (hn : n ≤ 48) (hnp : np ≤ 96) (hea : ∀ j, j < np → ea j < n) (heb : ∀ j, j < np → eb j < n) (hli : ∀ j, j < np → 1 ≤ li j ∧ li j ≤ 1000000000) (hsT : ∀ v, v < n → sT v = sT' v) (hsP : ∀ p, p < np → sP p = sP' p) (hu : u0 < n) (hen : e0 < n) (hue : u0 ≠ e0) (he : kd e0 = 0) {x : Option (Nat × List Nat × List Nat)} (hc : cLW kd ii oo np ea eb li sT sP u0 e0 x) (hm : mNo n kd ii oo np ea eb li sT' sP' u0 e0) : x = none := by
  obtain ⟨k, ap, af, tt, ac, c, hA, hx, ht, h4⟩ := hc
  rcases h4 with ⟨h4, -⟩ | ⟨h4, W, h5, h6, h7⟩
  · exact h4
  · exfalso
    rcases hm with hm | ⟨c2, r1, r2, r3⟩
    · rw [Bool.or_eq_true] at hm
      rcases hm with hm | hm
      · cases W with
        | nil => exact hue h5
        | cons j r =>
          have a4 := (hA.2.1 j h5.2.1).2.2.2.1
          have := (okA_of a4).1
          rw [h5.2.2.1.1, hsT _ hu, hm] at this
          cases this
      · obtain ⟨j, hj, hj2⟩ := walk_last W u0 (bf_tw_walk W u0 (bf_fw_tw W u0 h5)) hue
        have a4 := (hA.2.1 j hj).2.2.2.1
        have := (okA_of a4).2.1
        rw [hj2, hsT _ hen, hm] at this
        cases this
    · exact (costs_B hA hsT hsP hn hnp hea heb hli he hx ht r1 r2 ⟨hu, Or.inr (Or.inl rfl)⟩ h4).1 r3
theorem LW_yes (hea : ∀ j, j < np → ea j < n) (heb : ∀ j, j < np → eb j < n) (hsT : ∀ v, v < n → sT v = sT' v) (hsP : ∀ p, p < np → sP p = sP' p) (hu : u0 < n) (he : kd e0 = 0) {x : Option (Nat × List Nat × List Nat)} (hc : cLW kd ii oo np ea eb li sT sP u0 e0 x) (hm : mYes n kd ii oo np ea eb li sT' sP' u0 e0) : x.isSome = true := by
  obtain ⟨k, ap, af, tt, ac, c, hA, hx, ht, h4⟩ := hc
  obtain ⟨-, c2, r1, r2, r3⟩ := hm
  rcases h4 with ⟨h4, h5⟩ | ⟨h4, W, h5, h6, h7⟩
  · exact absurd h5 (costs_A hA hsT hsP hea heb he hx r1 hu r3).1
  · rw [h7]; rfl
theorem sumP_cons {a : Nat} {l : List Nat} : ∀ k, sumP li (a :: l) (k + 1) = li a + sumP li l k
  | 0 => by show 0 + li a = li a + 0; omega
  | k + 1 => by
    show sumP li (a :: l) (k + 1) + li ((a :: l).getD (k + 1) 0) = li a + (sumP li l k + li (l.getD k 0))
    rw [sumP_cons k]
    have : (a :: l).getD (k + 1) 0 = l.getD k 0 := by simp [List.getD]
    rw [this]
    omega
theorem cost_sum (hA : Arcs kd ii oo ea eb li sT sP e0 np k ap af tt ac) : ∀ (W : List Nat) (v : Nat), bf_walk k af tt e0 v W → ∃ V, V ≤ W.length ∧ bf_cost ac W = 64 * sumP li (W.map ap) W.length + V
  | [], _, _ => ⟨0, Nat.le_refl _, rfl⟩
  | j :: r, v, h => by
    obtain ⟨V, h1, h2⟩ := cost_sum hA r (tt j) h.2.2
    have h3 := (hA.2.1 j h.1).2.2.2.2
    have h4 := valv1 (kd := kd) (tt j)
    refine ⟨V + valv kd (tt j), by simp; omega, ?_⟩
    show ac j + bf_cost ac r = 64 * sumP li (ap j :: r.map ap) (r.length + 1) + _
    rw [sumP_cons, h2, h3]
    omega
theorem LW_same (hA : Arcs kd ii oo ea eb li sT sP e0 np k ap af tt ac) (hsT : ∀ v, v < n → sT v = sT' v) (hsP : ∀ p, p < np → sP p = sP' p) (hn : n ≤ 48) (hnp : np ≤ 96) (hea : ∀ j, j < np → ea j < n) (heb : ∀ j, j < np → eb j < n) (hli : ∀ j, j < np → 1 ≤ li j ∧ li j ≤ 1000000000) (hne : ∀ j, j < np → ea j ≠ eb j) (he : kd e0 = 0) (hx : bf_ex k af tt ac e0 c1) (ht : c1 e0 = 0) (hr : RI n kd ii oo np ea eb li sT' sP' u0 e0 c2) (hf : rFix kd ii oo np ea eb li sT' sP' u0 e0 c2) : ∀ (W : List Nat) (w : List (Nat × Nat)) (v : Nat), Rel n kd u0 e0 v → bf_fw k af tt ac c1 e0 v W → rFw kd ii oo np ea eb li sT' sP' e0 c2 v w → c1 v ≠ bf_far → W.map ap = rPl w ∧ bf_nodes tt v W = rNd v w
  | [], [], v, _, _, _, _ => ⟨rfl, rfl⟩
  | [], _ :: _, v, _, h, h', _ => absurd h h'.1
  | _ :: _, [], v, _, h, h', _ => absurd h' h.1
  | j :: W', x :: w', v, hv, h, h', hc => by
    obtain ⟨g1, g2, g3, g4, g5⟩ := h
    obtain ⟨f1, f2, f3, f4⟩ := h'
    have eqv : ∀ u, Rel n kd u0 e0 u → c1 u ≠ bf_far → c2 u ≠ far2 ∧ c2 u = c1 u + valv kd u := fun u hu hcu => by
      have b := costs_B hA hsT hsP hn hnp hea heb hli he hx ht hr hf hu hcu
      have a := costs_A hA hsT hsP hea heb he hx hr hu.1 b.1
      exact ⟨b.1, by omega⟩
    -- the class's arc is tight for the reference
    have key : ∀ i, i < k → bf_tight af tt ac c1 v i → rTi kd ii oo np ea eb li sT' sP' e0 c2 (ap i) v (tt i) ∧ Rel n kd u0 e0 (tt i) := fun i hi hti => by
      obtain ⟨a1, a2, a3, a4, a5⟩ := hA.2.1 i hi
      obtain ⟨o1, o2, o3, o4⟩ := okA_of a4
      have hb : tt i < n := by
        have b1 := hea _ a1
        have b2 := heb _ a1
        rcases a3 with q | q <;> omega
      have hrb : Rel n kd u0 e0 (tt i) := ⟨hb, o3.elim Or.inl (fun q => Or.inr (Or.inr q))⟩
      have e1 := eqv (tt i) hrb hti.2.1
      have e2 := eqv v hv hc
      have hvi : af i = v := hti.1
      refine ⟨⟨a1, by rw [← hvi]; exact a3, o3, go_5 (by rw [← hsP _ a1]; exact a2) (by rw [← hsT _ hv.1, ← hvi]; exact o1) (by rw [← hsT _ hb]; exact o2) (by rw [← hvi]; exact o4), e1.1, ?_⟩, hrb⟩
      have h3 := hti.2.2
      rw [e2.2, e1.2]
      unfold wtR
      omega
    obtain ⟨k1, k2⟩ := key j g2 g3
    -- the reference's pipe is an arc that is tight for the class
    obtain ⟨r1, r2, r3, r4, r5, r6⟩ := id f2
    obtain ⟨q1, q2, q3, q4⟩ := goB_of r4
    have ho : x.2 < n := rTi_lt hea heb f2
    have hro : Rel n kd u0 e0 x.2 := ⟨ho, r3.elim Or.inl (fun q => Or.inr (Or.inr q))⟩
    obtain ⟨i, i1, i2, i3, i4, i5⟩ := arc_ex hA r1 r2 (by rw [hsP _ r1]; exact q1) (okA_mk (by rw [hsT _ hv.1]; exact q2) (by rw [hsT _ ho]; exact q3) r3 q4)
    have hco := costs_A hA hsT hsP hea heb he hx hr ho r5
    have hti : bf_tight af tt ac c1 v i := by
      have e1 := eqv x.2 hro hco.1
      have e2 := eqv v hv hc
      refine ⟨i3, by rw [i4]; exact hco.1, ?_⟩
      rw [i4, i5]
      unfold wtR at r6
      omega
    have hji : j ≤ i := by
      rcases Nat.lt_or_ge i j with q | q
      · exact absurd hti (g4 i q)
      · exact q
    have hp1 : ap j ≤ x.1 := by rw [← i2]; exact hA.2.2.2.2 j i hji i1
    have hp2 : x.1 ≤ ap j := by
      rcases Nat.lt_or_ge (ap j) x.1 with q | q
      · exact absurd k1 (f3 _ q _)
      · exact q
    have hp : ap j = x.1 := by omega
    have ho2 : tt j = x.2 := by
      have a3 := k1.2.1
      rw [hp] at a3
      exact oth_u (hne _ r1) a3 r2
    have ih := LW_same hA hsT hsP hn hnp hea heb hli hne he hx ht hr hf W' w' (tt j) k2 g5 (by rw [ho2]; exact f4) g3.2.1
    constructor
    · show ap j :: W'.map ap = x.1 :: rPl w'
      rw [hp, ih.1]
    · show v :: bf_nodes tt (tt j) W' = v :: rNd x.2 w'
      rw [ih.2, ho2]
theorem LW_fw (hn : n ≤ 48) (hnp : np ≤ 96) (hea : ∀ j, j < np → ea j < n) (heb : ∀ j, j < np → eb j < n) (hli : ∀ j, j < np → 1 ≤ li j ∧ li j ≤ 1000000000) (hne : ∀ j, j < np → ea j ≠ eb j) (hsT : ∀ v, v < n → sT v = sT' v) (hsP : ∀ p, p < np → sP p = sP' p) (hu : u0 < n) (he : kd e0 = 0) {x : Option (Nat × List Nat × List Nat)} (hc : cLW kd ii oo np ea eb li sT sP u0 e0 x) {w : List (Nat × Nat)} (hm : mFw n kd ii oo np ea eb li sT' sP' u0 e0 w) : x = some (sumP li (rPl w) (rPl w).length, rPl w, rNd u0 w) := by
  obtain ⟨k, ap, af, tt, ac, c, hA, hx, ht, h4⟩ := hc
  obtain ⟨-, -, c2, r1, r2, r3, r4⟩ := hm
  rcases h4 with ⟨-, h5⟩ | ⟨h4, W, h5, h6, h7⟩
  · exact absurd h5 (costs_A hA hsT hsP hea heb he hx r1 hu r3).1
  · have hs := LW_same hA hsT hsP hn hnp hea heb hli hne he hx ht r1 r2 W w u0 ⟨hu, Or.inr (Or.inl rfl)⟩ h5 r4 h4
    have hcost := bf_tw_cost ht W u0 (bf_fw_tw W u0 h5)
    obtain ⟨V, v1, v2⟩ := cost_sum hA W u0 (bf_tw_walk W u0 (bf_fw_tw W u0 h5))
    rw [h7, hs.1, hs.2]
    have hl : W.length = (rPl w).length := by rw [← hs.1, List.length_map]
    congr 2
    rw [← hcost, v2, hs.1, hl]
    omega
end EQV

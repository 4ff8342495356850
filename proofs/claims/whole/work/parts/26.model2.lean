/-! the reference's reckoning: walks by pipes -/
abbrev far2 : Nat := 1152921504606846976
def gw (E : Nat → Nat → Nat → Prop) (e0 : Nat) : Nat → List (Nat × Nat) → Prop
  | v, [] => v = e0
  | v, x :: r => E x.1 v x.2 ∧ gw E e0 x.2 r
def gc (wt : Nat → Nat → Nat → Nat) : Nat → List (Nat × Nat) → Nat
  | _, [] => 0
  | v, x :: r => wt x.1 v x.2 + gc wt x.2 r
def inB (kd : Nat → Nat) (u0 e0 a b : Nat) : Bool := (decide (kd a ≠ 0) || decide (a = u0)) && ((decide (kd b ≠ 0) || decide (b = e0)) && decide (a ≠ e0))
def enB (kd : Nat → Nat) (ii oo : Nat → Int32) (sT sP : Nat → Bool) (u0 e0 p a b : Nat) : Bool := inB kd u0 e0 a b && goB kd ii oo sT sP p a b
def wtR (kd li : Nat → Nat) (p a : Nat) : Nat := 64 * li p + valv kd a
def rE (kd : Nat → Nat) (ii oo : Nat → Int32) (np : Nat) (ea eb : Nat → Nat) (sT sP : Nat → Bool) (u0 e0 p a b : Nat) : Prop := p < np ∧ ((a = ea p ∧ b = eb p) ∨ (a = eb p ∧ b = ea p)) ∧ enB kd ii oo sT sP u0 e0 p a b = true
/-- one try to improve a cost -/
def Imp (en : Bool) (w u v : Nat) (c f : Nat → Nat) (ch : Bool) : Prop := (ch = true ∧ en = true ∧ c v ≠ far2 ∧ c v + w < c u ∧ f = va_up c u (c v + w)) ∨ (ch = false ∧ f = c ∧ ¬ (en = true ∧ c v ≠ far2 ∧ c v + w < c u))
def sumN (f : Nat → Nat) : Nat → Nat
  | 0 => 0
  | k + 1 => sumN f k + f k
theorem sumN_same {f : Nat → Nat} {a x : Nat} : ∀ {k : Nat}, k ≤ a → sumN (va_up f a x) k = sumN f k
  | 0, _ => rfl
  | k + 1, h => by
    show sumN (va_up f a x) k + va_up f a x k = sumN f k + f k
    rw [sumN_same (k := k) (by omega), va_up_ne _ _ (show k ≠ a by omega)]
theorem sumN_up {f : Nat → Nat} {a x : Nat} (hx : x < f a) : ∀ {k : Nat}, a < k → sumN (va_up f a x) k < sumN f k
  | 0, h => absurd h (Nat.not_lt_zero _)
  | k + 1, h => by
    show sumN (va_up f a x) k + va_up f a x k < sumN f k + f k
    by_cases e : k = a
    · subst e
      rw [sumN_same (Nat.le_refl _), va_up_self]
      omega
    · rw [va_up_ne _ _ e]
      have := sumN_up hx (k := k) (by omega)
      omega
section RK
variable {n : Nat} {kd : Nat → Nat} {ii oo : Nat → Int32} {np : Nat} {ea eb li : Nat → Nat} {sT sP : Nat → Bool} {u0 e0 : Nat}
def RI (n : Nat) (kd : Nat → Nat) (ii oo : Nat → Int32) (np : Nat) (ea eb li : Nat → Nat) (sT sP : Nat → Bool) (u0 e0 : Nat) (f : Nat → Nat) : Prop := (∀ v, v < n → f v ≤ far2) ∧ f e0 = 0 ∧ ∀ v, v < n → f v ≠ far2 → ∃ w, gw (rE kd ii oo np ea eb sT sP u0 e0) e0 v w ∧ gc (fun p a _ => wtR kd li p a) v w = f v
def noI (kd : Nat → Nat) (ii oo : Nat → Int32) (li : Nat → Nat) (sT sP : Nat → Bool) (u0 e0 p a b : Nat) (f : Nat → Nat) : Prop := ¬ (enB kd ii oo sT sP u0 e0 p a b = true ∧ f b ≠ far2 ∧ f b + wtR kd li p a < f a)
def rFix (kd : Nat → Nat) (ii oo : Nat → Int32) (k : Nat) (ea eb li : Nat → Nat) (sT sP : Nat → Bool) (u0 e0 : Nat) (f : Nat → Nat) : Prop := ∀ p, p < k → noI kd ii oo li sT sP u0 e0 p (ea p) (eb p) f ∧ noI kd ii oo li sT sP u0 e0 p (eb p) (ea p) f
theorem enB_ne {p a b : Nat} (h : enB kd ii oo sT sP u0 e0 p a b = true) : a ≠ e0 := by
  unfold enB inB at h
  simp only [Bool.and_eq_true, decide_eq_true_eq] at h
  exact h.1.2.2
theorem RI_imp {f f' : Nat → Nat} {p a b : Nat} {ch : Bool} (h : RI n kd ii oo np ea eb li sT sP u0 e0 f) (hi : Imp (enB kd ii oo sT sP u0 e0 p a b) (wtR kd li p a) a b f f' ch) (hp : p < np) (hab : (a = ea p ∧ b = eb p) ∨ (a = eb p ∧ b = ea p)) (ha : a < n) (hb : b < n) : RI n kd ii oo np ea eb li sT sP u0 e0 f' ∧ sumN f' n ≤ sumN f n ∧ (ch = true → sumN f' n < sumN f n) ∧ (ch = false → f' = f ∧ noI kd ii oo li sT sP u0 e0 p a b f) := by
  obtain ⟨h1, h2, h3⟩ := id h
  rcases hi with ⟨rfl, en, hv, hl, rfl⟩ | ⟨rfl, rfl, hn⟩
  · have hlt := sumN_up hl ha
    refine ⟨⟨fun v hv' => ?_, ?_, fun v hv' hne => ?_⟩, Nat.le_of_lt hlt, fun _ => hlt, fun q => by cases q⟩
    · by_cases e : v = a
      · rw [e, va_up_self]
        have := h1 a ha
        omega
      · rw [va_up_ne _ _ e]; exact h1 v hv'
    · rw [va_up_ne _ _ (Ne.symm (enB_ne en))]; exact h2
    · by_cases e : v = a
      · subst e
        rw [va_up_self]
        obtain ⟨w, g1, g2⟩ := h3 b hb hv
        exact ⟨(p, b) :: w, ⟨⟨hp, hab, en⟩, g1⟩, by show wtR kd li p v + gc _ b w = _; omega⟩
      · rw [va_up_ne _ _ e] at hne ⊢
        exact h3 v hv' hne
  · exact ⟨h, Nat.le_refl _, fun q => (by cases q), fun _ => ⟨rfl, hn⟩⟩
theorem RI_0 {f1 : Nat → Nat} (h : ∀ x, x < n → f1 x = far2) : RI n kd ii oo np ea eb li sT sP u0 e0 (va_up f1 e0 0) := by
  refine ⟨fun v hv => ?_, va_up_self _ _ _, fun v hv hne => ?_⟩
  · by_cases e : v = e0
    · rw [e, va_up_self]; exact Nat.zero_le _
    · rw [va_up_ne _ _ e, h v hv]; exact Nat.le_refl _
  · by_cases e : v = e0
    · subst e
      exact ⟨[], rfl, by rw [va_up_self]; rfl⟩
    · rw [va_up_ne _ _ e, h v hv] at hne
      exact absurd rfl hne
/-- the inner loop's state: costs h, whether something fell, since the costs f at the pass's start -/
def RP (n : Nat) (kd : Nat → Nat) (ii oo : Nat → Int32) (np : Nat) (ea eb li : Nat → Nat) (sT sP : Nat → Bool) (u0 e0 : Nat) (f : Nat → Nat) (j : Nat) (h : Nat → Nat) (c : Bool) : Prop := RI n kd ii oo np ea eb li sT sP u0 e0 h ∧ sumN h n ≤ sumN f n ∧ (c = true → sumN h n < sumN f n) ∧ (c = false → h = f ∧ rFix kd ii oo j ea eb li sT sP u0 e0 f)
theorem RP_0 {f : Nat → Nat} (h : RI n kd ii oo np ea eb li sT sP u0 e0 f) : RP n kd ii oo np ea eb li sT sP u0 e0 f 0 f false := ⟨h, Nat.le_refl _, fun q => (by cases q), fun _ => ⟨rfl, fun p hp => absurd hp (Nat.not_lt_zero _)⟩⟩
theorem RP_s {f h h1 h2 : Nat → Nat} {j : Nat} {c c1 c2 : Bool} (hr : RP n kd ii oo np ea eb li sT sP u0 e0 f j h c) (hj : j < np) (ha : ea j < n) (hb : eb j < n) (i1 : Imp (enB kd ii oo sT sP u0 e0 j (ea j) (eb j)) (wtR kd li j (ea j)) (ea j) (eb j) h h1 c1) (i2 : Imp (enB kd ii oo sT sP u0 e0 j (eb j) (ea j)) (wtR kd li j (eb j)) (eb j) (ea j) h1 h2 c2) : RP n kd ii oo np ea eb li sT sP u0 e0 f (j + 1) h2 ((c || c1) || c2) := by
  obtain ⟨a1, a2, a3, a4⟩ := hr
  obtain ⟨b1, b2, b3, b4⟩ := RI_imp a1 i1 hj (Or.inl ⟨rfl, rfl⟩) ha hb
  obtain ⟨d1, d2, d3, d4⟩ := RI_imp b1 i2 hj (Or.inr ⟨rfl, rfl⟩) hb ha
  refine ⟨d1, by omega, fun q => ?_, fun q => ?_⟩
  · cases c with
    | true => have := a3 rfl; omega
    | false =>
      cases c1 with
      | true => have := b3 rfl; omega
      | false =>
        cases c2 with
        | true => have := d3 rfl; omega
        | false => cases q
  · rw [Bool.or_eq_false_iff, Bool.or_eq_false_iff] at q
    obtain ⟨⟨q1, q2⟩, q3⟩ := q
    obtain ⟨e1, e2⟩ := a4 q1
    obtain ⟨f1, f2⟩ := b4 q2
    obtain ⟨g1, g2⟩ := d4 q3
    subst e1
    subst f1
    subst g1
    refine ⟨rfl, fun p hp => ?_⟩
    rcases Nat.lt_succ_iff_lt_or_eq.mp hp with z | z
    · exact e2 p z
    · subst z
      exact ⟨f2, g2⟩
end RK

section MODEL2
variable {l : Launch} {g : va_G} {t : Nat → ClassId} {b : Nat → Nat} {n : Nat} {kd : Nat → Nat} {em : Nat → Bool} {br : Nat → Bool} {ii : Nat → Int32} {oo : Nat → Int32} {np : Nat} {ea : Nat → Nat} {eb : Nat → Nat} {li : Nat → Nat} {rn : Nat → Bool} {wp : Nat → Nat} {wl : Nat → Nat} {wf : Nat → Nat} {wt : Nat → Nat} {wn : Nat} {ct : Nat → Nat} {sT : Nat → Bool} {sP : Nat → Bool} {sa : Nat → Nat} {sb : Nat → Nat} {rest : va_W}
theorem join_thing {n np : Nat} {ea eb : Nat → Nat} {x y : Int32} (hn : n ≤ 48) (hea : ∀ j, j < np → ea j < n) (heb : ∀ j, j < np → eb j < n) (h : anyN (joinB ea eb x y) np = true) : hasB n y = true := by
  obtain ⟨p, hp, h1⟩ := anyN_t.mp h
  have b1 := hea p hp
  have b2 := heb p hp
  unfold joinB at h1
  rcases Bool.or_eq_true_iff.mp h1 with q | q
  · have := of_decide_eq_true (Bool.and_eq_true_iff.mp q).2
    rw [← this, hasB_nI (by omega)]
    exact decide_eq_true b2
  · have := of_decide_eq_true (Bool.and_eq_true_iff.mp q).1
    rw [← this, hasB_nI (by omega)]
    exact decide_eq_true b1
set_option maxHeartbeats 4000000 in
set_option maxRecDepth 100000 in
theorem c_MO_forward_no (x y z : Int32) (hn : n ≤ 48) (hnp : np ≤ 96) (hk : ∀ j, kd j < 3) (hno : fwdB n kd np ea eb x y z = false) : Rd l y_MO_forward w_MO_forward ({ frames := 2, cells := 0, slots := 0, locals := 47 }) g classes (tyL t) [.ref (b 0), .int x, .int y, .int z] (mW b t n kd em br ii oo np ea eb li rn wp wl wf wt wn ct sT sP sa sb rest) (some (.int (bI false))) := by
  refine Rd.of (cc := b_MO_forward) (maxL := 4) (ret := (some .boolean)) (own := R_MO) (by decide) rfl rfl (Nat.le_of_ble_eq_true rfl) ?_
  intro p e s m args below meth c C0 hr hlk hP ls hl
  have hl : lv_has ls 4 [(0, .ref (b 0)), (1, .int x), (2, .int y), (3, .int z)] := hl
  refine lv_aload_n C0.1 C0.2.1 d_MO_forward_0 rfl (lv_at hl 0 rfl) ?_
  refine lv_iload_n C0.1 C0.2.1 d_MO_forward_1 rfl (lv_at hl 1 rfl) ?_
  refine cR (As := [.int x]) (rest := []) C0 (c_MO_isThing x hn) (q_MO_74 C0.2.2.2.2.1 rfl rfl ⟨Nat.le_of_ble_eq_true rfl, Nat.le_of_ble_eq_true rfl⟩) (ci := 5) (q0 := 0) rfl rfl rfl hP hl.1 rfl rfl (Nat.le_of_ble_eq_true rfl) d_MO_forward_2 ⟨Nat.zero_le _, Nat.zero_le _⟩ ?_
  refine W.eq (g2 := F0 m 5 ls [.int (bI (hasB n x))]) rfl ?_
  refine lv_if_eq (tgt := 57) C0.1 C0.2.1 d_MO_forward_5 (by decide) (fun c_5 => ?_) (fun c_5 => ?_)
  · refine lv_iconst (v := nI 0) C0.1 C0.2.1 d_MO_forward_57 (by decide) ?_
    exact eR_z C0 hr hlk (b := false) (rfl) rfl d_MO_forward_58
  · have c_5 := bI_n0.mp c_5
    obtain ⟨i, hi, rfl⟩ := hasB_ex (by omega) c_5
    refine lv_aload_n C0.1 C0.2.1 d_MO_forward_8 rfl (lv_at hl 0 rfl) ?_
    refine gf_MO_9 C0 hP 0 rfl rfl d_MO_forward_9 ?_
    refine lv_iload_n C0.1 C0.2.1 d_MO_forward_12 rfl (lv_at hl 1 rfl) ?_
    refine ald_i C0 hP 1 0 rfl rfl (by omega) (by decide) d_MO_forward_13 ?_
    refine lv_iconst (v := nI 1) C0.1 C0.2.1 d_MO_forward_14 (by decide) ?_
    refine lv_icmp_ne (tgt := 57) C0.1 C0.2.1 d_MO_forward_15 (by decide) (fun c_15 => ?_) (fun c_15 => ?_)
    · refine lv_iconst (v := nI 0) C0.1 C0.2.1 d_MO_forward_57 (by decide) ?_
      exact eR_z C0 hr hlk (b := false) (rfl) rfl d_MO_forward_58
    · refine lv_aload_n C0.1 C0.2.1 d_MO_forward_18 rfl (lv_at hl 0 rfl) ?_
      refine lv_iload_n C0.1 C0.2.1 d_MO_forward_19 rfl (lv_at hl 2 rfl) ?_
      refine cR (As := [.int y]) (rest := []) C0 (c_MO_isThing y hn) (q_MO_74 C0.2.2.2.2.1 rfl rfl ⟨Nat.le_of_ble_eq_true rfl, Nat.le_of_ble_eq_true rfl⟩) (ci := 5) (q0 := 0) rfl rfl rfl hP hl.1 rfl rfl (Nat.le_of_ble_eq_true rfl) d_MO_forward_20 ⟨Nat.zero_le _, Nat.zero_le _⟩ ?_
      refine W.eq (g2 := F0 m 23 ls [.int (bI (hasB n y))]) rfl ?_
      refine lv_if_eq (tgt := 57) C0.1 C0.2.1 d_MO_forward_23 (by decide) (fun c_23 => ?_) (fun c_23 => ?_)
      · refine lv_iconst (v := nI 0) C0.1 C0.2.1 d_MO_forward_57 (by decide) ?_
        exact eR_z C0 hr hlk (b := false) (rfl) rfl d_MO_forward_58
      · refine lv_aload_n C0.1 C0.2.1 d_MO_forward_26 rfl (lv_at hl 0 rfl) ?_
        refine lv_iload_n C0.1 C0.2.1 d_MO_forward_27 rfl (lv_at hl 3 rfl) ?_
        refine cR (As := [.int z]) (rest := []) C0 (c_MO_isThing z hn) (q_MO_74 C0.2.2.2.2.1 rfl rfl ⟨Nat.le_of_ble_eq_true rfl, Nat.le_of_ble_eq_true rfl⟩) (ci := 5) (q0 := 0) rfl rfl rfl hP hl.1 rfl rfl (Nat.le_of_ble_eq_true rfl) d_MO_forward_28 ⟨Nat.zero_le _, Nat.zero_le _⟩ ?_
        refine W.eq (g2 := F0 m 31 ls [.int (bI (hasB n z))]) rfl ?_
        refine lv_if_eq (tgt := 57) C0.1 C0.2.1 d_MO_forward_31 (by decide) (fun c_31 => ?_) (fun c_31 => ?_)
        · refine lv_iconst (v := nI 0) C0.1 C0.2.1 d_MO_forward_57 (by decide) ?_
          exact eR_z C0 hr hlk (b := false) (rfl) rfl d_MO_forward_58
        · refine lv_iload_n C0.1 C0.2.1 d_MO_forward_34 rfl (lv_at hl 2 rfl) ?_
          refine lv_iload_n C0.1 C0.2.1 d_MO_forward_35 rfl (lv_at hl 3 rfl) ?_
          refine lv_icmp_eq (tgt := 57) C0.1 C0.2.1 d_MO_forward_36 (by decide) (fun c_36 => ?_) (fun c_36 => ?_)
          · refine lv_iconst (v := nI 0) C0.1 C0.2.1 d_MO_forward_57 (by decide) ?_
            exact eR_z C0 hr hlk (b := false) (rfl) rfl d_MO_forward_58
          · refine lv_aload_n C0.1 C0.2.1 d_MO_forward_39 rfl (lv_at hl 0 rfl) ?_
            refine lv_iload_n C0.1 C0.2.1 d_MO_forward_40 rfl (lv_at hl 1 rfl) ?_
            refine lv_iload_n C0.1 C0.2.1 d_MO_forward_41 rfl (lv_at hl 2 rfl) ?_
            refine cR (As := [.int (nI i), .int y]) (rest := []) C0 (c_MO_areJoined (nI i) y hnp) (q_MO_87 C0.2.2.2.2.1 rfl rfl ⟨Nat.le_of_ble_eq_true rfl, Nat.le_of_ble_eq_true rfl⟩) (ci := 5) (q0 := 0) rfl rfl rfl hP hl.1 rfl rfl (Nat.le_of_ble_eq_true rfl) d_MO_forward_42 ⟨Nat.zero_le _, Nat.zero_le _⟩ ?_
            refine W.eq (g2 := F0 m 45 ls [.int (bI (anyN (joinB ea eb (nI i) y) np))]) rfl ?_
            refine lv_if_eq (tgt := 57) C0.1 C0.2.1 d_MO_forward_45 (by decide) (fun c_45 => ?_) (fun c_45 => ?_)
            · refine lv_iconst (v := nI 0) C0.1 C0.2.1 d_MO_forward_57 (by decide) ?_
              exact eR_z C0 hr hlk (b := false) (rfl) rfl d_MO_forward_58
            · refine lv_aload_n C0.1 C0.2.1 d_MO_forward_48 rfl (lv_at hl 0 rfl) ?_
              refine lv_iload_n C0.1 C0.2.1 d_MO_forward_49 rfl (lv_at hl 1 rfl) ?_
              refine lv_iload_n C0.1 C0.2.1 d_MO_forward_50 rfl (lv_at hl 3 rfl) ?_
              refine cR (As := [.int (nI i), .int z]) (rest := []) C0 (c_MO_areJoined (nI i) z hnp) (q_MO_87 C0.2.2.2.2.1 rfl rfl ⟨Nat.le_of_ble_eq_true rfl, Nat.le_of_ble_eq_true rfl⟩) (ci := 5) (q0 := 0) rfl rfl rfl hP hl.1 rfl rfl (Nat.le_of_ble_eq_true rfl) d_MO_forward_51 ⟨Nat.zero_le _, Nat.zero_le _⟩ ?_
              refine W.eq (g2 := F0 m 54 ls [.int (bI (anyN (joinB ea eb (nI i) z) np))]) rfl ?_
              refine lv_if_ne (tgt := 59) C0.1 C0.2.1 d_MO_forward_54 (by decide) (fun c_54 => ?_) (fun c_54 => ?_)
              · exact absurd (fwd_5 (n := n) (kd := kd) (by rw [isK_j hi (by have := hk i; omega) (by omega)]; exact decide_eq_true ((nI_eq (by have := hk i; omega) (by decide)).mp c_15)) c_36 (bI_n0.mp c_45) (bI_n0.mp c_54)) (by rw [hno]; decide)
              · refine lv_iconst (v := nI 0) C0.1 C0.2.1 d_MO_forward_57 (by decide) ?_
                exact eR_z C0 hr hlk (b := false) (rfl) rfl d_MO_forward_58
set_option maxHeartbeats 4000000 in
set_option maxRecDepth 100000 in
theorem c_MO_forward (i : Nat) (y z : Int32) (hi : i < n) (hki : kd i = 1) (hy : hasB n y = true) (hz : hasB n z = true) (hn : n ≤ 48) (hnp : np ≤ 96) (hk : ∀ j, kd j < 3) (hyes : fwdB n kd np ea eb (nI i) y z = true) : Mt l y_MO_forward w_MO_forward ({ frames := 2, cells := 0, slots := 0, locals := 47 }) g classes (tyL t) [.ref (b 0), .int (nI i), .int y, .int z] (mW b t n kd em br ii oo np ea eb li rn wp wl wf wt wn ct sT sP sa sb rest) (S := Unit) (fun v _ => v = some (.int (bI true))) (fun _ => (mW b t n kd em br (va_up ii i y) (va_up oo i z) np ea eb li rn wp wl wf wt wn ct sT sP sa sb rest)) 0 0 := by
  refine Mt.of (cc := b_MO_forward) (maxL := 4) (ret := (some .boolean)) (own := R_MO) (by decide) rfl rfl (Nat.le_of_ble_eq_true rfl) ?_
  intro p e s m args below meth c C0 hr hlk hin A hA hB ls hl
  have hl : lv_has ls 4 [(0, .ref (b 0)), (1, .int (nI i)), (2, .int y), (3, .int z)] := hl
  refine lv_aload_n C0.1 C0.2.1 d_MO_forward_0 rfl (lv_at hl 0 rfl) ?_
  refine lv_iload_n C0.1 C0.2.1 d_MO_forward_1 rfl (lv_at hl 1 rfl) ?_
  refine cR (As := [.int (nI i)]) (rest := []) C0 (c_MO_isThing (nI i) hn) (q_MO_74 C0.2.2.2.2.1 rfl rfl ⟨Nat.le_of_ble_eq_true rfl, Nat.le_of_ble_eq_true rfl⟩) (ci := 5) (q0 := 0) rfl rfl rfl hB.1 hl.1 rfl rfl (Nat.le_of_ble_eq_true rfl) d_MO_forward_2 ⟨Nat.zero_le _, Nat.zero_le _⟩ ?_
  refine W.eq (g2 := F0 m 5 ls [.int (bI (hasB n (nI i)))]) rfl ?_
  refine lv_if_eq (tgt := 57) C0.1 C0.2.1 d_MO_forward_5 (by decide) (fun c_5 => ?_) (fun c_5 => ?_)
  · exact absurd (bI_0.mp c_5) (by rw [hasB_nI (by omega), decide_eq_true hi]; decide)
  · refine lv_aload_n C0.1 C0.2.1 d_MO_forward_8 rfl (lv_at hl 0 rfl) ?_
    refine gf_MO_9 C0 hB.1 0 rfl rfl d_MO_forward_9 ?_
    refine lv_iload_n C0.1 C0.2.1 d_MO_forward_12 rfl (lv_at hl 1 rfl) ?_
    refine ald_i C0 hB.1 1 0 rfl rfl (by omega) (by decide) d_MO_forward_13 ?_
    refine lv_iconst (v := nI 1) C0.1 C0.2.1 d_MO_forward_14 (by decide) ?_
    refine lv_icmp_ne (tgt := 57) C0.1 C0.2.1 d_MO_forward_15 (by decide) (fun c_15 => ?_) (fun c_15 => ?_)
    · exact absurd (by rw [hki]) c_15
    · refine lv_aload_n C0.1 C0.2.1 d_MO_forward_18 rfl (lv_at hl 0 rfl) ?_
      refine lv_iload_n C0.1 C0.2.1 d_MO_forward_19 rfl (lv_at hl 2 rfl) ?_
      refine cR (As := [.int y]) (rest := []) C0 (c_MO_isThing y hn) (q_MO_74 C0.2.2.2.2.1 rfl rfl ⟨Nat.le_of_ble_eq_true rfl, Nat.le_of_ble_eq_true rfl⟩) (ci := 5) (q0 := 0) rfl rfl rfl hB.1 hl.1 rfl rfl (Nat.le_of_ble_eq_true rfl) d_MO_forward_20 ⟨Nat.zero_le _, Nat.zero_le _⟩ ?_
      refine W.eq (g2 := F0 m 23 ls [.int (bI (hasB n y))]) rfl ?_
      refine lv_if_eq (tgt := 57) C0.1 C0.2.1 d_MO_forward_23 (by decide) (fun c_23 => ?_) (fun c_23 => ?_)
      · exact absurd (bI_0.mp c_23) (by rw [hy]; decide)
      · refine lv_aload_n C0.1 C0.2.1 d_MO_forward_26 rfl (lv_at hl 0 rfl) ?_
        refine lv_iload_n C0.1 C0.2.1 d_MO_forward_27 rfl (lv_at hl 3 rfl) ?_
        refine cR (As := [.int z]) (rest := []) C0 (c_MO_isThing z hn) (q_MO_74 C0.2.2.2.2.1 rfl rfl ⟨Nat.le_of_ble_eq_true rfl, Nat.le_of_ble_eq_true rfl⟩) (ci := 5) (q0 := 0) rfl rfl rfl hB.1 hl.1 rfl rfl (Nat.le_of_ble_eq_true rfl) d_MO_forward_28 ⟨Nat.zero_le _, Nat.zero_le _⟩ ?_
        refine W.eq (g2 := F0 m 31 ls [.int (bI (hasB n z))]) rfl ?_
        refine lv_if_eq (tgt := 57) C0.1 C0.2.1 d_MO_forward_31 (by decide) (fun c_31 => ?_) (fun c_31 => ?_)
        · exact absurd (bI_0.mp c_31) (by rw [hz]; decide)
        · refine lv_iload_n C0.1 C0.2.1 d_MO_forward_34 rfl (lv_at hl 2 rfl) ?_
          refine lv_iload_n C0.1 C0.2.1 d_MO_forward_35 rfl (lv_at hl 3 rfl) ?_
          refine lv_icmp_eq (tgt := 57) C0.1 C0.2.1 d_MO_forward_36 (by decide) (fun c_36 => ?_) (fun c_36 => ?_)
          · exact absurd (fwd_2 c_36) (by rw [hyes]; decide)
          · refine lv_aload_n C0.1 C0.2.1 d_MO_forward_39 rfl (lv_at hl 0 rfl) ?_
            refine lv_iload_n C0.1 C0.2.1 d_MO_forward_40 rfl (lv_at hl 1 rfl) ?_
            refine lv_iload_n C0.1 C0.2.1 d_MO_forward_41 rfl (lv_at hl 2 rfl) ?_
            refine cR (As := [.int (nI i), .int y]) (rest := []) C0 (c_MO_areJoined (nI i) y hnp) (q_MO_87 C0.2.2.2.2.1 rfl rfl ⟨Nat.le_of_ble_eq_true rfl, Nat.le_of_ble_eq_true rfl⟩) (ci := 5) (q0 := 0) rfl rfl rfl hB.1 hl.1 rfl rfl (Nat.le_of_ble_eq_true rfl) d_MO_forward_42 ⟨Nat.zero_le _, Nat.zero_le _⟩ ?_
            refine W.eq (g2 := F0 m 45 ls [.int (bI (anyN (joinB ea eb (nI i) y) np))]) rfl ?_
            refine lv_if_eq (tgt := 57) C0.1 C0.2.1 d_MO_forward_45 (by decide) (fun c_45 => ?_) (fun c_45 => ?_)
            · exact absurd (fwd_3 (bI_0.mp c_45)) (by rw [hyes]; decide)
            · refine lv_aload_n C0.1 C0.2.1 d_MO_forward_48 rfl (lv_at hl 0 rfl) ?_
              refine lv_iload_n C0.1 C0.2.1 d_MO_forward_49 rfl (lv_at hl 1 rfl) ?_
              refine lv_iload_n C0.1 C0.2.1 d_MO_forward_50 rfl (lv_at hl 3 rfl) ?_
              refine cR (As := [.int (nI i), .int z]) (rest := []) C0 (c_MO_areJoined (nI i) z hnp) (q_MO_87 C0.2.2.2.2.1 rfl rfl ⟨Nat.le_of_ble_eq_true rfl, Nat.le_of_ble_eq_true rfl⟩) (ci := 5) (q0 := 0) rfl rfl rfl hB.1 hl.1 rfl rfl (Nat.le_of_ble_eq_true rfl) d_MO_forward_51 ⟨Nat.zero_le _, Nat.zero_le _⟩ ?_
              refine W.eq (g2 := F0 m 54 ls [.int (bI (anyN (joinB ea eb (nI i) z) np))]) rfl ?_
              refine lv_if_ne (tgt := 59) C0.1 C0.2.1 d_MO_forward_54 (by decide) (fun c_54 => ?_) (fun c_54 => ?_)
              · refine lv_aload_n C0.1 C0.2.1 d_MO_forward_59 rfl (lv_at hl 0 rfl) ?_
                refine gf_MO_20 C0 hB.1 0 rfl rfl d_MO_forward_60 ?_
                refine lv_iload_n C0.1 C0.2.1 d_MO_forward_63 rfl (lv_at hl 1 rfl) ?_
                refine lv_iload_n C0.1 C0.2.1 d_MO_forward_64 rfl (lv_at hl 2 rfl) ?_
                refine ast_i (w' := (mW b t n kd em br (va_up ii i y) oo np ea eb li rn wp wl wf wt wn ct sT sP sa sb rest)) C0 hB 4 0 rfl rfl (by omega) (by decide) up_32 rfl d_MO_forward_65 (fun H locs hB => ?_)
                refine lv_aload_n C0.1 C0.2.1 d_MO_forward_66 rfl (lv_at hl 0 rfl) ?_
                refine gf_MO_23 C0 hB.1 0 rfl rfl d_MO_forward_67 ?_
                refine lv_iload_n C0.1 C0.2.1 d_MO_forward_70 rfl (lv_at hl 1 rfl) ?_
                refine lv_iload_n C0.1 C0.2.1 d_MO_forward_71 rfl (lv_at hl 3 rfl) ?_
                refine ast_i (w' := (mW b t n kd em br (va_up ii i y) (va_up oo i z) np ea eb li rn wp wl wf wt wn ct sT sP sa sb rest)) C0 hB 5 0 rfl rfl (by omega) (by decide) up_32 rfl d_MO_forward_72 (fun H locs hB => ?_)
                refine lv_iconst (v := nI 1) C0.1 C0.2.1 d_MO_forward_73 (by decide) ?_
                exact eM_z C0 hr hlk (b := true) () rfl hB rfl (Nat.le_refl _) (Nat.le_refl _) d_MO_forward_74
              · exact absurd (fwd_4 (bI_0.mp c_54)) (by rw [hyes]; decide)
set_option maxHeartbeats 4000000 in
set_option maxRecDepth 100000 in
theorem c_MO_wrong (x y : Int32) (hn : n ≤ 48) (hk : ∀ j, kd j < 3) : Rd l y_MO_wrong w_MO_wrong ({ frames := 2, cells := 0, slots := 0, locals := 42 }) g classes (tyL t) [.ref (b 0), .int x, .int y] (mW b t n kd em br ii oo np ea eb li rn wp wl wf wt wn ct sT sP sa sb rest) (some (.int (refC n kd em x y))) := by
  refine Rd.of (cc := b_MO_wrong) (maxL := 3) (ret := (some .int)) (own := R_MO) (by decide) rfl rfl (Nat.le_of_ble_eq_true rfl) ?_
  intro p e s m args below meth c C0 hr hlk hP ls hl
  have hl : lv_has ls 3 [(0, .ref (b 0)), (1, .int x), (2, .int y)] := hl
  refine lv_aload_n C0.1 C0.2.1 d_MO_wrong_0 rfl (lv_at hl 0 rfl) ?_
  refine lv_iload_n C0.1 C0.2.1 d_MO_wrong_1 rfl (lv_at hl 1 rfl) ?_
  refine cR (As := [.int x]) (rest := []) C0 (c_MO_isTank x hn hk) (q_MO_106 C0.2.2.2.2.1 rfl rfl ⟨Nat.le_of_ble_eq_true rfl, Nat.le_of_ble_eq_true rfl⟩) (ci := 5) (q0 := 0) rfl rfl rfl hP hl.1 rfl rfl (Nat.le_of_ble_eq_true rfl) d_MO_wrong_2 ⟨Nat.zero_le _, Nat.zero_le _⟩ ?_
  refine W.eq (g2 := F0 m 5 ls [.int (bI (isK n kd x 0))]) rfl ?_
  refine lv_if_eq (tgt := 16) C0.1 C0.2.1 d_MO_wrong_5 (by decide) (fun c_5 => ?_) (fun c_5 => ?_)
  · refine lv_bipush (v := -2) C0.1 C0.2.1 d_MO_wrong_16 (by decide) ?_
    refine lv_goto (tgt := 46) C0.1 C0.2.1 d_MO_wrong_18 (by decide) ?_
    exact eR_i C0 hr hlk (by rw [refC_w (by rw [bI_0.mp c_5]; rfl)]) d_MO_wrong_46
  · refine lv_aload_n C0.1 C0.2.1 d_MO_wrong_8 rfl (lv_at hl 0 rfl) ?_
    refine lv_iload_n C0.1 C0.2.1 d_MO_wrong_9 rfl (lv_at hl 2 rfl) ?_
    refine cR (As := [.int y]) (rest := []) C0 (c_MO_isTank y hn hk) (q_MO_106 C0.2.2.2.2.1 rfl rfl ⟨Nat.le_of_ble_eq_true rfl, Nat.le_of_ble_eq_true rfl⟩) (ci := 5) (q0 := 0) rfl rfl rfl hP hl.1 rfl rfl (Nat.le_of_ble_eq_true rfl) d_MO_wrong_10 ⟨Nat.zero_le _, Nat.zero_le _⟩ ?_
    refine W.eq (g2 := F0 m 13 ls [.int (bI (isK n kd y 0))]) rfl ?_
    refine lv_if_ne (tgt := 21) C0.1 C0.2.1 d_MO_wrong_13 (by decide) (fun c_13 => ?_) (fun c_13 => ?_)
    · refine lv_iload_n C0.1 C0.2.1 d_MO_wrong_21 rfl (lv_at hl 1 rfl) ?_
      refine lv_iload_n C0.1 C0.2.1 d_MO_wrong_22 rfl (lv_at hl 2 rfl) ?_
      refine lv_icmp_ne (tgt := 31) C0.1 C0.2.1 d_MO_wrong_23 (by decide) (fun c_23 => ?_) (fun c_23 => ?_)
      · have c_5 := bI_n0.mp c_5
        have c_13 := bI_n0.mp c_13
        obtain ⟨i, hi, rfl, hki⟩ := isK_ex (by omega) c_5
        refine lv_aload_n C0.1 C0.2.1 d_MO_wrong_31 rfl (lv_at hl 0 rfl) ?_
        refine gf_MO_13 C0 hP 0 rfl rfl d_MO_wrong_32 ?_
        refine lv_iload_n C0.1 C0.2.1 d_MO_wrong_35 rfl (lv_at hl 1 rfl) ?_
        refine ald_z C0 hP 2 1 rfl rfl (by omega) (by decide) d_MO_wrong_36 ?_
        refine lv_if_eq (tgt := 45) C0.1 C0.2.1 d_MO_wrong_37 (by decide) (fun c_37 => ?_) (fun c_37 => ?_)
        · refine lv_iconst (v := nI 0) C0.1 C0.2.1 d_MO_wrong_45 (by decide) ?_
          exact eR_i C0 hr hlk (by rw [refC_0 c_5 c_13 c_23 (by rw [nI_clamp (by omega)]; exact bI_0.mp c_37)]) d_MO_wrong_46
        · refine lv_bipush (v := -4) C0.1 C0.2.1 d_MO_wrong_40 (by decide) ?_
          refine lv_goto (tgt := 46) C0.1 C0.2.1 d_MO_wrong_42 (by decide) ?_
          exact eR_i C0 hr hlk (by rw [refC_e c_5 c_13 c_23 (by rw [nI_clamp (by omega)]; exact bI_n0.mp c_37)]) d_MO_wrong_46
      · refine lv_bipush (v := -3) C0.1 C0.2.1 d_MO_wrong_26 (by decide) ?_
        refine lv_goto (tgt := 46) C0.1 C0.2.1 d_MO_wrong_28 (by decide) ?_
        exact eR_i C0 hr hlk (by rw [refC_s (bI_n0.mp c_5) (bI_n0.mp c_13) c_23]) d_MO_wrong_46
    · refine lv_bipush (v := -2) C0.1 C0.2.1 d_MO_wrong_16 (by decide) ?_
      refine lv_goto (tgt := 46) C0.1 C0.2.1 d_MO_wrong_18 (by decide) ?_
      exact eR_i C0 hr hlk (by rw [refC_w (by rw [bI_0.mp c_13, Bool.and_false])]) d_MO_wrong_46
theorem upor {f : Nat → Bool} {kd : Nat → Nat} {v x : Nat} : va_up f v (f v || decide (kd v ≠ 0)) x = (f x || decide (x = v ∧ kd v ≠ 0)) := by
  by_cases e : x = v
  · subst e
    rw [va_up_self]
    congr 1
    rw [decide_eq_decide]
    exact ⟨fun q => ⟨rfl, q⟩, fun q => q.2⟩
  · rw [va_up_ne _ _ e, decide_eq_false (show ¬ (x = v ∧ kd v ≠ 0) from fun q => e q.1), Bool.or_false]
set_option maxHeartbeats 4000000 in
set_option maxRecDepth 100000 in
theorem c_MO_shut (hn : n ≤ 48) (hnp : np ≤ 96) (hk : ∀ j, kd j < 3) (hea : ∀ j, j < np → ea j < n) (heb : ∀ j, j < np → eb j < n) : Mt l y_MO_shut w_MO_shut ({ frames := 0, cells := 0, slots := 0, locals := 0 }) g classes (tyL t) [.ref (b 0)] (mW b t n kd em br ii oo np ea eb li rn wp wl wf wt wn ct sT sP sa sb rest) (S := (Nat → Bool) × (Nat → Bool)) (fun v q => v = none ∧ (∀ x, x < n → q.1 x = shT kd br rn ea eb np x) ∧ ∀ p, p < np → q.2 p = rn p) (fun q => (mW b t n kd em br ii oo np ea eb li rn wp wl wf wt wn ct q.1 q.2 sa sb rest)) 0 0 := by
  refine Mt.of (cc := b_MO_shut) (maxL := 2) (ret := none) (own := R_MO) (by decide) rfl rfl (Nat.le_of_ble_eq_true rfl) ?_
  intro p e s m args below meth c C0 hr hlk hin A hA hB ls hl
  have hl : lv_has ls 2 [(0, .ref (b 0))] := hl
  refine lv_iconst (v := nI 0) C0.1 C0.2.1 d_MO_shut_0 (by decide) ?_
  refine lv_istore_n (lv' := [(1, .int (nI 0)), (0, .ref (b 0))]) C0.1 C0.2.1 d_MO_shut_1 rfl hl (by decide) rfl (fun ls hl => ?_)
  refine wlM (σ := Nat × (Nat → Bool)) (head := 2) (fun z_ => n - z_.1) (fun z_ => z_.1 ≤ n ∧ ∀ x, x < z_.1 → z_.2 x = br x) (fun z_ => (mW b t n kd em br ii oo np ea eb li rn wp wl wf wt wn ct z_.2 sP sa sb rest)) (fun z_ => [(0, .ref (b 0)), (1, .int (nI z_.1))]) ?_ (0, sT) (show 0 ≤ n ∧ ∀ x, x < 0 → sT x = br x from ⟨Nat.zero_le _, fun i h => absurd h (Nat.not_lt_zero _)⟩) hB (lv_sub hl [1, 0] rfl)
  rintro ⟨j, f⟩ hi ih_2 H locs ls hB hl
  have hi : j ≤ n ∧ ∀ x, x < j → f x = br x := hi
  obtain ⟨hi1, hi2⟩ := hi
  have hl : lv_has ls 2 [(0, .ref (b 0)), (1, .int (nI j))] := hl
  have hB : wB g classes A s.heap (mW b t n kd em br ii oo np ea eb li rn wp wl wf wt wn ct f sP sa sb rest) H locs := hB
  refine lv_iload_n C0.1 C0.2.1 d_MO_shut_2 rfl (lv_at hl 1 rfl) ?_
  refine lv_aload_n C0.1 C0.2.1 d_MO_shut_3 rfl (lv_at hl 0 rfl) ?_
  refine gf_MO_66 C0 hB.1 0 rfl rfl d_MO_shut_4 ?_
  refine lv_icmp_ge (tgt := 28) C0.1 C0.2.1 d_MO_shut_7 (by decide) (fun c_7 => ?_) (fun c_7 => ?_)
  · have hjn : j = n := by have := (nI_leI (by omega) (by omega)).mp c_7; omega
    have hi2 : ∀ x, x < n → f x = br x := fun x hx => hi2 x (by omega)
    refine lv_iconst (v := nI 0) C0.1 C0.2.1 d_MO_shut_28 (by decide) ?_
    refine lv_istore_n (lv' := [(1, .int (nI 0)), (0, .ref (b 0))]) C0.1 C0.2.1 d_MO_shut_29 rfl hl (by decide) rfl (fun ls hl => ?_)
    refine wlM (σ := Nat × (Nat → Bool) × (Nat → Bool)) (head := 30) (fun z_ => np - z_.1) (fun z_ => z_.1 ≤ np ∧ (∀ x, x < n → z_.2.1 x = shT kd br rn ea eb z_.1 x) ∧ ∀ q, q < z_.1 → z_.2.2 q = rn q) (fun z_ => (mW b t n kd em br ii oo np ea eb li rn wp wl wf wt wn ct z_.2.1 z_.2.2 sa sb rest)) (fun z_ => [(0, .ref (b 0)), (1, .int (nI z_.1))]) ?_ (0, f, sP) (show 0 ≤ np ∧ (∀ x, x < n → f x = shT kd br rn ea eb 0 x) ∧ ∀ q, q < 0 → sP q = rn q from ⟨Nat.zero_le _, fun x hx => by rw [shT_0]; exact hi2 x hx, fun i h => absurd h (Nat.not_lt_zero _)⟩) hB (lv_sub hl [1, 0] rfl)
    rintro ⟨k, f, h⟩ hi ih_30 H locs ls hB hl
    have hi : k ≤ np ∧ (∀ x, x < n → f x = shT kd br rn ea eb k x) ∧ ∀ q, q < k → h q = rn q := hi
    obtain ⟨hj1, hj2, hj3⟩ := hi
    have hl : lv_has ls 2 [(0, .ref (b 0)), (1, .int (nI k))] := hl
    have hB : wB g classes A s.heap (mW b t n kd em br ii oo np ea eb li rn wp wl wf wt wn ct f h sa sb rest) H locs := hB
    refine lv_iload_n C0.1 C0.2.1 d_MO_shut_30 rfl (lv_at hl 1 rfl) ?_
    refine lv_aload_n C0.1 C0.2.1 d_MO_shut_31 rfl (lv_at hl 0 rfl) ?_
    refine gf_MO_80 C0 hB.1 0 rfl rfl d_MO_shut_32 ?_
    refine lv_icmp_ge (tgt := 131) C0.1 C0.2.1 d_MO_shut_35 (by decide) (fun c_35 => ?_) (fun c_35 => ?_)
    · have hkn : k = np := by have := (nI_leI (by omega) (by omega)).mp c_35; omega
      have hj2 : ∀ x, x < n → f x = shT kd br rn ea eb np x := fun x hx => by rw [← hkn]; exact hj2 x hx
      have hj3 : ∀ q, q < np → h q = rn q := fun q hq => hj3 q (by omega)
      exact eM_v C0 hr hlk (f, h) hB (⟨rfl, hj2, hj3⟩) (Nat.le_refl _) (Nat.le_refl _) d_MO_shut_131
    · have hk1 : k < np := (nI_nle' (by omega) (by omega)).mp c_35
      have hxa := hea k hk1
      have hxb := heb k hk1
      refine lv_aload_n C0.1 C0.2.1 d_MO_shut_38 rfl (lv_at hl 0 rfl) ?_
      refine gf_MO_57 C0 hB.1 0 rfl rfl d_MO_shut_39 ?_
      refine lv_iload_n C0.1 C0.2.1 d_MO_shut_42 rfl (lv_at hl 1 rfl) ?_
      refine lv_aload_n C0.1 C0.2.1 d_MO_shut_43 rfl (lv_at hl 0 rfl) ?_
      refine gf_MO_36 C0 hB.1 0 rfl rfl d_MO_shut_44 ?_
      refine lv_iload_n C0.1 C0.2.1 d_MO_shut_47 rfl (lv_at hl 1 rfl) ?_
      refine ald_z C0 hB.1 9 1 rfl rfl (by omega) (by decide) d_MO_shut_48 ?_
      refine ast_z (w' := (mW b t n kd em br ii oo np ea eb li rn wp wl wf wt wn ct f (va_up h k (rn k)) sa sb rest)) C0 hB 16 1 rfl rfl (by omega) (by decide) up_bI rfl d_MO_shut_49 (fun H locs hB => ?_)
      refine lv_aload_n C0.1 C0.2.1 d_MO_shut_50 rfl (lv_at hl 0 rfl) ?_
      refine gf_MO_36 C0 hB.1 0 rfl rfl d_MO_shut_51 ?_
      refine lv_iload_n C0.1 C0.2.1 d_MO_shut_54 rfl (lv_at hl 1 rfl) ?_
      refine ald_z C0 hB.1 9 1 rfl rfl (by omega) (by decide) d_MO_shut_55 ?_
      refine lv_if_eq (tgt := 125) C0.1 C0.2.1 d_MO_shut_56 (by decide) (fun c_56 => ?_) (fun c_56 => ?_)
      · have c_56 := bI_0.mp c_56
        refine lv_iinc (v := nI (k + 1)) (lv' := [(1, .int (nI (k + 1))), (0, .ref (b 0))]) C0.1 C0.2.1 d_MO_shut_125 hl (k := 1) rfl (inc1 _) (by decide) rfl (fun ls hl => ?_)
        refine lv_goto (tgt := 30) C0.1 C0.2.1 d_MO_shut_128 (by decide) ?_
        exact ih_30 ((k + 1), f, (va_up h k (rn k))) (show (k + 1) ≤ np ∧ (∀ x, x < n → f x = shT kd br rn ea eb (k + 1) x) ∧ ∀ q, q < (k + 1) → (va_up h k (rn k)) q = rn q from ⟨by omega, fun x hx => by rw [shT_off c_56]; exact hj2 x hx, lt_s (fun x hx => by rw [va_up_ne _ _ (show x ≠ k by omega)]; exact hj3 x hx) (va_up_self _ _ _)⟩) (show np - (k + 1) < np - k from by omega) H locs ls hB (lv_sub hl [1, 0] rfl)
      · have c_56 := bI_n0.mp c_56
        refine lv_aload_n C0.1 C0.2.1 d_MO_shut_59 rfl (lv_at hl 0 rfl) ?_
        refine gf_MO_54 C0 hB.1 0 rfl rfl d_MO_shut_60 ?_
        refine lv_aload_n C0.1 C0.2.1 d_MO_shut_63 rfl (lv_at hl 0 rfl) ?_
        refine gf_MO_26 C0 hB.1 0 rfl rfl d_MO_shut_64 ?_
        refine lv_iload_n C0.1 C0.2.1 d_MO_shut_67 rfl (lv_at hl 1 rfl) ?_
        refine ald_i C0 hB.1 6 0 rfl rfl (by omega) (by decide) d_MO_shut_68 ?_
        refine lv_dup2_11 C0.1 C0.2.1 d_MO_shut_69 rfl rfl ?_
        refine ald_z C0 hB.1 15 1 rfl rfl (by omega) (by decide) d_MO_shut_70 ?_
        refine wcut (g2 := F0 m 90 ls [.int (bI (decide (kd (ea k) ≠ 0))), .int (bI (f (ea k))), .int (nI (ea k)), .ref (b 15)]) ?_ (fun T90 => ?_)
        · refine lv_ior C0.1 C0.2.1 d_MO_shut_90 ?_
          refine ti (show (bI (f (ea k))) ||| (bI (decide (kd (ea k) ≠ 0))) = bI ((f (ea k)) || (decide (kd (ea k) ≠ 0))) from bI_or) ?_
          refine ast_z (w' := (mW b t n kd em br ii oo np ea eb li rn wp wl wf wt wn ct (va_up f (ea k) ((f (ea k)) || (decide (kd (ea k) ≠ 0)))) (va_up h k (rn k)) sa sb rest)) C0 hB 15 1 rfl rfl (by omega) (by decide) up_bI rfl d_MO_shut_91 (fun H locs hB => ?_)
          refine lv_aload_n C0.1 C0.2.1 d_MO_shut_92 rfl (lv_at hl 0 rfl) ?_
          refine gf_MO_54 C0 hB.1 0 rfl rfl d_MO_shut_93 ?_
          refine lv_aload_n C0.1 C0.2.1 d_MO_shut_96 rfl (lv_at hl 0 rfl) ?_
          refine gf_MO_29 C0 hB.1 0 rfl rfl d_MO_shut_97 ?_
          refine lv_iload_n C0.1 C0.2.1 d_MO_shut_100 rfl (lv_at hl 1 rfl) ?_
          refine ald_i C0 hB.1 7 0 rfl rfl (by omega) (by decide) d_MO_shut_101 ?_
          refine lv_dup2_11 C0.1 C0.2.1 d_MO_shut_102 rfl rfl ?_
          refine ald_z C0 hB.1 15 1 rfl rfl (by omega) (by decide) d_MO_shut_103 ?_
          refine wcut (g2 := F0 m 123 ls [.int (bI (decide (kd (eb k) ≠ 0))), .int (bI ((va_up f (ea k) ((f (ea k)) || (decide (kd (ea k) ≠ 0)))) (eb k))), .int (nI (eb k)), .ref (b 15)]) ?_ (fun T123 => ?_)
          · refine lv_ior C0.1 C0.2.1 d_MO_shut_123 ?_
            refine ti (show (bI ((va_up f (ea k) ((f (ea k)) || (decide (kd (ea k) ≠ 0)))) (eb k))) ||| (bI (decide (kd (eb k) ≠ 0))) = bI (((va_up f (ea k) ((f (ea k)) || (decide (kd (ea k) ≠ 0)))) (eb k)) || (decide (kd (eb k) ≠ 0))) from bI_or) ?_
            refine ast_z (w' := (mW b t n kd em br ii oo np ea eb li rn wp wl wf wt wn ct (va_up (va_up f (ea k) ((f (ea k)) || (decide (kd (ea k) ≠ 0)))) (eb k) (((va_up f (ea k) ((f (ea k)) || (decide (kd (ea k) ≠ 0)))) (eb k)) || (decide (kd (eb k) ≠ 0)))) (va_up h k (rn k)) sa sb rest)) C0 hB 15 1 rfl rfl (by omega) (by decide) up_bI rfl d_MO_shut_124 (fun H locs hB => ?_)
            refine lv_iinc (v := nI (k + 1)) (lv' := [(1, .int (nI (k + 1))), (0, .ref (b 0))]) C0.1 C0.2.1 d_MO_shut_125 hl (k := 1) rfl (inc1 _) (by decide) rfl (fun ls hl => ?_)
            refine lv_goto (tgt := 30) C0.1 C0.2.1 d_MO_shut_128 (by decide) ?_
            exact ih_30 ((k + 1), (va_up (va_up f (ea k) ((f (ea k)) || (decide (kd (ea k) ≠ 0)))) (eb k) (((va_up f (ea k) ((f (ea k)) || (decide (kd (ea k) ≠ 0)))) (eb k)) || (decide (kd (eb k) ≠ 0)))), (va_up h k (rn k))) (show (k + 1) ≤ np ∧ (∀ x, x < n → (va_up (va_up f (ea k) ((f (ea k)) || (decide (kd (ea k) ≠ 0)))) (eb k) (((va_up f (ea k) ((f (ea k)) || (decide (kd (ea k) ≠ 0)))) (eb k)) || (decide (kd (eb k) ≠ 0)))) x = shT kd br rn ea eb (k + 1) x) ∧ ∀ q, q < (k + 1) → (va_up h k (rn k)) q = rn q from ⟨by omega, fun x hx => by rw [shT_on c_56, ← hj2 x hx, ← upor, ← upor], lt_s (fun x hx => by rw [va_up_ne _ _ (show x ≠ k by omega)]; exact hj3 x hx) (va_up_self _ _ _)⟩) (show np - (k + 1) < np - k from by omega) H locs ls hB (lv_sub hl [1, 0] rfl)
          · refine lv_aload_n C0.1 C0.2.1 d_MO_shut_104 rfl (lv_at hl 0 rfl) ?_
            refine gf_MO_9 C0 hB.1 0 rfl rfl d_MO_shut_105 ?_
            refine lv_aload_n C0.1 C0.2.1 d_MO_shut_108 rfl (lv_at hl 0 rfl) ?_
            refine gf_MO_29 C0 hB.1 0 rfl rfl d_MO_shut_109 ?_
            refine lv_iload_n C0.1 C0.2.1 d_MO_shut_112 rfl (lv_at hl 1 rfl) ?_
            refine ald_i C0 hB.1 7 0 rfl rfl (by omega) (by decide) d_MO_shut_113 ?_
            refine ald_i C0 hB.1 1 0 rfl rfl (by omega) (by decide) d_MO_shut_114 ?_
            refine lv_if_eq (tgt := 122) C0.1 C0.2.1 d_MO_shut_115 (by decide) (fun c_115 => ?_) (fun c_115 => ?_)
            · refine lv_iconst (v := nI 0) C0.1 C0.2.1 d_MO_shut_122 (by decide) ?_
              exact ti (show nI 0 = bI (decide (kd (eb k) ≠ 0)) from by rw [decide_eq_false (fun q => q ((nI_eq (by have := hk (eb k); omega) (by decide)).mp c_115))]; rfl) T123
            · refine lv_iconst (v := nI 1) C0.1 C0.2.1 d_MO_shut_118 (by decide) ?_
              refine lv_goto (tgt := 123) C0.1 C0.2.1 d_MO_shut_119 (by decide) ?_
              exact ti (show nI 1 = bI (decide (kd (eb k) ≠ 0)) from by rw [decide_eq_true (show kd (eb k) ≠ 0 from fun q => c_115 (by rw [q]; rfl))]; rfl) T123
        · refine lv_aload_n C0.1 C0.2.1 d_MO_shut_71 rfl (lv_at hl 0 rfl) ?_
          refine gf_MO_9 C0 hB.1 0 rfl rfl d_MO_shut_72 ?_
          refine lv_aload_n C0.1 C0.2.1 d_MO_shut_75 rfl (lv_at hl 0 rfl) ?_
          refine gf_MO_26 C0 hB.1 0 rfl rfl d_MO_shut_76 ?_
          refine lv_iload_n C0.1 C0.2.1 d_MO_shut_79 rfl (lv_at hl 1 rfl) ?_
          refine ald_i C0 hB.1 6 0 rfl rfl (by omega) (by decide) d_MO_shut_80 ?_
          refine ald_i C0 hB.1 1 0 rfl rfl (by omega) (by decide) d_MO_shut_81 ?_
          refine lv_if_eq (tgt := 89) C0.1 C0.2.1 d_MO_shut_82 (by decide) (fun c_82 => ?_) (fun c_82 => ?_)
          · refine lv_iconst (v := nI 0) C0.1 C0.2.1 d_MO_shut_89 (by decide) ?_
            exact ti (show nI 0 = bI (decide (kd (ea k) ≠ 0)) from by rw [decide_eq_false (fun q => q ((nI_eq (by have := hk (ea k); omega) (by decide)).mp c_82))]; rfl) T90
          · refine lv_iconst (v := nI 1) C0.1 C0.2.1 d_MO_shut_85 (by decide) ?_
            refine lv_goto (tgt := 90) C0.1 C0.2.1 d_MO_shut_86 (by decide) ?_
            exact ti (show nI 1 = bI (decide (kd (ea k) ≠ 0)) from by rw [decide_eq_true (show kd (ea k) ≠ 0 from fun q => c_82 (by rw [q]; rfl))]; rfl) T90
  · have hjn : j < n := (nI_nle' (by omega) (by omega)).mp c_7
    refine lv_aload_n C0.1 C0.2.1 d_MO_shut_10 rfl (lv_at hl 0 rfl) ?_
    refine gf_MO_54 C0 hB.1 0 rfl rfl d_MO_shut_11 ?_
    refine lv_iload_n C0.1 C0.2.1 d_MO_shut_14 rfl (lv_at hl 1 rfl) ?_
    refine lv_aload_n C0.1 C0.2.1 d_MO_shut_15 rfl (lv_at hl 0 rfl) ?_
    refine gf_MO_17 C0 hB.1 0 rfl rfl d_MO_shut_16 ?_
    refine lv_iload_n C0.1 C0.2.1 d_MO_shut_19 rfl (lv_at hl 1 rfl) ?_
    refine ald_z C0 hB.1 3 1 rfl rfl (by omega) (by decide) d_MO_shut_20 ?_
    refine ast_z (w' := (mW b t n kd em br ii oo np ea eb li rn wp wl wf wt wn ct (va_up f j (br j)) sP sa sb rest)) C0 hB 15 1 rfl rfl (by omega) (by decide) up_bI rfl d_MO_shut_21 (fun H locs hB => ?_)
    refine lv_iinc (v := nI (j + 1)) (lv' := [(1, .int (nI (j + 1))), (0, .ref (b 0))]) C0.1 C0.2.1 d_MO_shut_22 hl (k := 1) rfl (inc1 _) (by decide) rfl (fun ls hl => ?_)
    refine lv_goto (tgt := 2) C0.1 C0.2.1 d_MO_shut_25 (by decide) ?_
    exact ih_2 ((j + 1), (va_up f j (br j))) (show (j + 1) ≤ n ∧ ∀ x, x < (j + 1) → (va_up f j (br j)) x = br x from ⟨by omega, lt_s (fun x hx => by rw [va_up_ne _ _ (show x ≠ j by omega)]; exact hi2 x hx) (va_up_self _ _ _)⟩) (show n - (j + 1) < n - j from by omega) H locs ls hB (lv_sub hl [1, 0] rfl)
set_option maxHeartbeats 4000000 in
set_option maxRecDepth 100000 in
theorem c_MO_improve (p0 u v u0 e0 : Nat) (hp0 : p0 < 96) (hu : u < 48) (hv : v < 48) (hu0 : u0 < 48) (he0 : e0 < 48) (hk : ∀ j, kd j < 3) (hli : li p0 ≤ 1000000000) (hcv : ct v ≤ 1152921504606846976) (hcu : ct u ≤ 1152921504606846976) : Mt l y_MO_improve w_MO_improve ({ frames := 1, cells := 0, slots := 0, locals := 23 }) g classes (tyL t) [.ref (b 0), .int (nI p0), .int (nI u), .int (nI v), .int (nI u0), .int (nI e0)] (mW b t n kd em br ii oo np ea eb li rn wp wl wf wt wn ct sT sP sa sb rest) (S := (Nat → Nat) × Bool) (fun r z => r = some (.int (bI z.2)) ∧ Imp (enB kd ii oo sT sP u0 e0 p0 u v) (wtR kd li p0 u) u v ct z.1 z.2) (fun z => (mW b t n kd em br ii oo np ea eb li rn wp wl wf wt wn z.1 sT sP sa sb rest)) 0 0 := by
  refine Mt.of (cc := b_MO_improve) (maxL := 9) (ret := (some .boolean)) (own := R_MO) (by decide) rfl rfl (Nat.le_of_ble_eq_true rfl) ?_
  intro p e s m args below meth c C0 hr hlk hin A hA hB ls hl
  have hl : lv_has ls 9 [(0, .ref (b 0)), (1, .int (nI p0)), (2, .int (nI u)), (3, .int (nI v)), (4, .int (nI u0)), (5, .int (nI e0))] := hl
  have h1 : ct v < 9223372036854775808 - 100000000000 := by have := hcv; omega
  have h2 : ct u < 9223372036854775808 := by omega
  have h3 : valv kd u ≤ 1 := by unfold valv; split <;> omega
  refine wcut (g2 := F0 m 41 ls [.int (bI (inB kd u0 e0 u v))]) ?_ (fun T41 => ?_)
  · refine lv_istore (lv' := [(6, .int (bI (inB kd u0 e0 u v))), (0, .ref (b 0)), (1, .int (nI p0)), (2, .int (nI u)), (3, .int (nI v)), (4, .int (nI u0)), (5, .int (nI e0))]) C0.1 C0.2.1 d_MO_improve_41 hl (by decide) rfl (fun ls hl => ?_)
    refine lv_iload C0.1 C0.2.1 d_MO_improve_43 (lv_at hl 0 rfl) ?_
    refine lv_if_eq (tgt := 71) C0.1 C0.2.1 d_MO_improve_45 (by decide) (fun c_45 => ?_) (fun c_45 => ?_)
    · have hno : ¬ (enB kd ii oo sT sP u0 e0 p0 u v = true ∧ ct v ≠ far2 ∧ ct v + wtR kd li p0 u < ct u) := fun q => by have q1 := q.1; unfold enB at q1; rw [bI_0.mp c_45] at q1; cases q1
      refine lv_iconst (v := nI 0) C0.1 C0.2.1 d_MO_improve_71 (by decide) ?_
      exact eM_z C0 hr hlk (b := false) (ct, false) rfl hB ⟨rfl, Or.inr ⟨rfl, rfl, hno⟩⟩ (Nat.le_refl _) (Nat.le_refl _) d_MO_improve_72
    · refine lv_aload_n C0.1 C0.2.1 d_MO_improve_48 rfl (lv_at hl 1 rfl) ?_
      refine lv_iload_n C0.1 C0.2.1 d_MO_improve_49 rfl (lv_at hl 2 rfl) ?_
      refine lv_iload_n C0.1 C0.2.1 d_MO_improve_50 rfl (lv_at hl 3 rfl) ?_
      refine lv_iload_n C0.1 C0.2.1 d_MO_improve_51 rfl (lv_at hl 4 rfl) ?_
      refine cR (As := [.int (nI p0), .int (nI u), .int (nI v)]) (rest := []) C0 (c_MO_goes p0 u v hp0 hu hv hk) (q_MO_97 C0.2.2.2.2.1 rfl rfl ⟨Nat.le_of_ble_eq_true rfl, Nat.le_of_ble_eq_true rfl⟩) (ci := 5) (q0 := 0) rfl rfl rfl hB.1 hl.1 rfl rfl (Nat.le_of_ble_eq_true rfl) d_MO_improve_52 ⟨Nat.zero_le _, Nat.zero_le _⟩ ?_
      refine W.eq (g2 := F0 m 55 ls [.int (bI (goB kd ii oo sT sP p0 u v))]) rfl ?_
      refine lv_if_eq (tgt := 71) C0.1 C0.2.1 d_MO_improve_55 (by decide) (fun c_55 => ?_) (fun c_55 => ?_)
      · have hno : ¬ (enB kd ii oo sT sP u0 e0 p0 u v = true ∧ ct v ≠ far2 ∧ ct v + wtR kd li p0 u < ct u) := fun q => by have q1 := q.1; unfold enB at q1; rw [bI_0.mp c_55, Bool.and_false] at q1; cases q1
        refine lv_iconst (v := nI 0) C0.1 C0.2.1 d_MO_improve_71 (by decide) ?_
        exact eM_z C0 hr hlk (b := false) (ct, false) rfl hB ⟨rfl, Or.inr ⟨rfl, rfl, hno⟩⟩ (Nat.le_refl _) (Nat.le_refl _) d_MO_improve_72
      · have hen : enB kd ii oo sT sP u0 e0 p0 u v = true := by unfold enB; rw [bI_n0.mp c_45, bI_n0.mp c_55]; rfl
        refine lv_aload_n C0.1 C0.2.1 d_MO_improve_58 rfl (lv_at hl 1 rfl) ?_
        refine gf_MO_51 C0 hB.1 0 rfl rfl d_MO_improve_59 ?_
        refine lv_iload_n C0.1 C0.2.1 d_MO_improve_62 rfl (lv_at hl 4 rfl) ?_
        refine ald_l C0 hB.1 14 2 rfl rfl (by omega) (by decide) d_MO_improve_63 ?_
        refine lv_ldc2 C0.1 C0.2.1 C0.2.2.2.1 (C0.2.2.2.2.1 _ k_MO_91) d_MO_improve_64 ?_
        refine tl (show (1152921504606846976 : Int64) = lN 1152921504606846976 from rfl) ?_
        refine W.lcmp C0.1 C0.2.1 d_MO_improve_67 ?_
        refine lv_if_ne (tgt := 73) C0.1 C0.2.1 d_MO_improve_68 (by decide) (fun c_68 => ?_) (fun c_68 => ?_)
        · have hfar : ct v ≠ far2 := fun q => c_68 ((lg_cmp_eq _ _).mpr (by rw [q]))
          refine lv_aload_n C0.1 C0.2.1 d_MO_improve_73 rfl (lv_at hl 1 rfl) ?_
          refine gf_MO_51 C0 hB.1 0 rfl rfl d_MO_improve_74 ?_
          refine lv_iload_n C0.1 C0.2.1 d_MO_improve_77 rfl (lv_at hl 4 rfl) ?_
          refine ald_l C0 hB.1 14 2 rfl rfl (by omega) (by decide) d_MO_improve_78 ?_
          refine lv_ldc2 C0.1 C0.2.1 C0.2.2.2.1 (C0.2.2.2.2.1 _ k_MO_100) d_MO_improve_79 ?_
          refine tl (show (64 : Int64) = lN 64 from rfl) ?_
          refine lv_aload_n C0.1 C0.2.1 d_MO_improve_82 rfl (lv_at hl 1 rfl) ?_
          refine gf_MO_32 C0 hB.1 0 rfl rfl d_MO_improve_83 ?_
          refine lv_iload_n C0.1 C0.2.1 d_MO_improve_86 rfl (lv_at hl 2 rfl) ?_
          refine ald_l C0 hB.1 8 2 rfl rfl (by omega) (by decide) d_MO_improve_87 ?_
          refine lv_lmul C0.1 C0.2.1 d_MO_improve_88 ?_
          refine tl (show (lN 64) * (lN (li p0)) = lN (64 * (li p0)) from lN_mul _ _) ?_
          refine lv_ladd C0.1 C0.2.1 d_MO_improve_89 ?_
          refine tl (show (lN (ct v)) + (lN (64 * (li p0))) = lN (ct v + (64 * (li p0))) from lN_add _ _) ?_
          refine wcut (g2 := F0 m 105 ls [.long (lN (valv kd u)), .long (lN (ct v + (64 * (li p0))))]) ?_ (fun T105 => ?_)
          · refine lv_ladd C0.1 C0.2.1 d_MO_improve_105 ?_
            refine tl (show (lN (ct v + (64 * (li p0)))) + (lN (valv kd u)) = lN (ct v + (64 * (li p0)) + (valv kd u)) from lN_add _ _) ?_
            refine lv_lstore (lv' := [(7, .long (lN (ct v + (64 * (li p0)) + (valv kd u)))), (6, .int (bI (inB kd u0 e0 u v))), (0, .ref (b 0)), (1, .int (nI p0)), (2, .int (nI u)), (3, .int (nI v)), (4, .int (nI u0)), (5, .int (nI e0))]) C0.1 C0.2.1 d_MO_improve_106 hl (by decide) rfl (fun ls hl => ?_)
            refine lv_lload C0.1 C0.2.1 d_MO_improve_108 (lv_at hl 0 rfl) ?_
            refine lv_aload_n C0.1 C0.2.1 d_MO_improve_110 rfl (lv_at hl 2 rfl) ?_
            refine gf_MO_51 C0 hB.1 0 rfl rfl d_MO_improve_111 ?_
            refine lv_iload_n C0.1 C0.2.1 d_MO_improve_114 rfl (lv_at hl 4 rfl) ?_
            refine ald_l C0 hB.1 14 2 rfl rfl (by omega) (by decide) d_MO_improve_115 ?_
            refine W.lcmp C0.1 C0.2.1 d_MO_improve_116 ?_
            refine lv_if_lt (tgt := 122) C0.1 C0.2.1 d_MO_improve_117 (by decide) (fun c_117 => ?_) (fun c_117 => ?_)
            · have hless : ct v + wtR kd li p0 u < ct u := by have := (pk_lLT (by omega) (by omega)).mp ((lg_cmp_lt _ _).mp c_117); unfold wtR; omega
              refine lv_aload_n C0.1 C0.2.1 d_MO_improve_122 rfl (lv_at hl 2 rfl) ?_
              refine gf_MO_51 C0 hB.1 0 rfl rfl d_MO_improve_123 ?_
              refine lv_iload_n C0.1 C0.2.1 d_MO_improve_126 rfl (lv_at hl 4 rfl) ?_
              refine lv_lload C0.1 C0.2.1 d_MO_improve_127 (lv_at hl 0 rfl) ?_
              refine ast_l (w' := (mW b t n kd em br ii oo np ea eb li rn wp wl wf wt wn (va_up ct u (ct v + (64 * (li p0)) + (valv kd u))) sT sP sa sb rest)) C0 hB 14 2 rfl rfl (by omega) (by decide) up_lN rfl d_MO_improve_129 (fun H locs hB => ?_)
              refine lv_iconst (v := nI 1) C0.1 C0.2.1 d_MO_improve_130 (by decide) ?_
              exact eM_z C0 hr hlk (b := true) (va_up ct u (ct v + 64 * li p0 + valv kd u), true) rfl hB ⟨rfl, Or.inl ⟨rfl, hen, hfar, hless, by rw [Nat.add_assoc]; rfl⟩⟩ (Nat.le_refl _) (Nat.le_refl _) d_MO_improve_131
            · have hno : ¬ (enB kd ii oo sT sP u0 e0 p0 u v = true ∧ ct v ≠ far2 ∧ ct v + wtR kd li p0 u < ct u) := fun q => c_117 ((lg_cmp_lt _ _).mpr ((pk_lLT (by omega) (by omega)).mpr (by have := q.2.2; unfold wtR at this; omega)))
              refine lv_iconst (v := nI 0) C0.1 C0.2.1 d_MO_improve_120 (by decide) ?_
              exact eM_z C0 hr hlk (b := false) (ct, false) rfl hB ⟨rfl, Or.inr ⟨rfl, rfl, hno⟩⟩ (Nat.le_refl _) (Nat.le_refl _) d_MO_improve_121
          · refine lv_aload_n C0.1 C0.2.1 d_MO_improve_90 rfl (lv_at hl 1 rfl) ?_
            refine gf_MO_9 C0 hB.1 0 rfl rfl d_MO_improve_91 ?_
            refine lv_iload_n C0.1 C0.2.1 d_MO_improve_94 rfl (lv_at hl 3 rfl) ?_
            refine ald_i C0 hB.1 1 0 rfl rfl (by omega) (by decide) d_MO_improve_95 ?_
            refine lv_iconst (v := nI 2) C0.1 C0.2.1 d_MO_improve_96 (by decide) ?_
            refine lv_icmp_ne (tgt := 104) C0.1 C0.2.1 d_MO_improve_97 (by decide) (fun c_97 => ?_) (fun c_97 => ?_)
            · refine lv_lconst (v := lN 0) C0.1 C0.2.1 d_MO_improve_104 rfl ?_
              exact tl (show lN 0 = lN (valv kd u) from by rw [show valv kd u = 0 from if_neg (fun q => c_97 (by rw [q]))]) T105
            · refine lv_lconst (v := lN 1) C0.1 C0.2.1 d_MO_improve_100 rfl ?_
              refine lv_goto (tgt := 105) C0.1 C0.2.1 d_MO_improve_101 (by decide) ?_
              exact tl (show lN 1 = lN (valv kd u) from by rw [show valv kd u = 1 from if_pos ((nI_eq (by have := hk u; omega) (by decide)).mp c_97)]) T105
        · have hno : ¬ (enB kd ii oo sT sP u0 e0 p0 u v = true ∧ ct v ≠ far2 ∧ ct v + wtR kd li p0 u < ct u) := fun q => q.2.1 ((pk_lEQ (by omega) (by decide)).mp ((lg_cmp_eq _ _).mp c_68))
          refine lv_iconst (v := nI 0) C0.1 C0.2.1 d_MO_improve_71 (by decide) ?_
          exact eM_z C0 hr hlk (b := false) (ct, false) rfl hB ⟨rfl, Or.inr ⟨rfl, rfl, hno⟩⟩ (Nat.le_refl _) (Nat.le_refl _) d_MO_improve_72
  · refine lv_aload_n C0.1 C0.2.1 d_MO_improve_0 rfl (lv_at hl 0 rfl) ?_
    refine gf_MO_9 C0 hB.1 0 rfl rfl d_MO_improve_1 ?_
    refine lv_iload_n C0.1 C0.2.1 d_MO_improve_4 rfl (lv_at hl 2 rfl) ?_
    refine ald_i C0 hB.1 1 0 rfl rfl (by omega) (by decide) d_MO_improve_5 ?_
    refine lv_if_ne (tgt := 15) C0.1 C0.2.1 d_MO_improve_6 (by decide) (fun c_6 => ?_) (fun c_6 => ?_)
    · have g1 : (decide (kd u ≠ 0) || decide (u = u0)) = true := by rw [decide_eq_true (show kd u ≠ 0 from fun q => c_6 (by rw [q]; rfl))]; rfl
      refine lv_aload_n C0.1 C0.2.1 d_MO_improve_15 rfl (lv_at hl 0 rfl) ?_
      refine gf_MO_9 C0 hB.1 0 rfl rfl d_MO_improve_16 ?_
      refine lv_iload_n C0.1 C0.2.1 d_MO_improve_19 rfl (lv_at hl 3 rfl) ?_
      refine ald_i C0 hB.1 1 0 rfl rfl (by omega) (by decide) d_MO_improve_20 ?_
      refine lv_if_ne (tgt := 30) C0.1 C0.2.1 d_MO_improve_21 (by decide) (fun c_21 => ?_) (fun c_21 => ?_)
      · have g2 : (decide (kd v ≠ 0) || decide (v = e0)) = true := by rw [decide_eq_true (show kd v ≠ 0 from fun q => c_21 (by rw [q]; rfl))]; rfl
        refine lv_iload_n C0.1 C0.2.1 d_MO_improve_30 rfl (lv_at hl 2 rfl) ?_
        refine lv_iload C0.1 C0.2.1 d_MO_improve_31 (lv_at hl 5 rfl) ?_
        refine lv_icmp_eq (tgt := 40) C0.1 C0.2.1 d_MO_improve_33 (by decide) (fun c_33 => ?_) (fun c_33 => ?_)
        · refine lv_iconst (v := nI 0) C0.1 C0.2.1 d_MO_improve_40 (by decide) ?_
          exact ti (show nI 0 = bI (inB kd u0 e0 u v) from by unfold inB; rw [decide_eq_false (show ¬ (u ≠ e0) from fun q => q ((nI_eq (by omega) (by omega)).mp c_33)), Bool.and_false, Bool.and_false]; rfl) T41
        · refine lv_iconst (v := nI 1) C0.1 C0.2.1 d_MO_improve_36 (by decide) ?_
          refine lv_goto (tgt := 41) C0.1 C0.2.1 d_MO_improve_37 (by decide) ?_
          exact ti (show nI 1 = bI (inB kd u0 e0 u v) from by unfold inB; rw [g1, g2, decide_eq_true (show u ≠ e0 from fun q => c_33 (by rw [q]))]; rfl) T41
      · refine lv_iload_n C0.1 C0.2.1 d_MO_improve_24 rfl (lv_at hl 3 rfl) ?_
        refine lv_iload C0.1 C0.2.1 d_MO_improve_25 (lv_at hl 5 rfl) ?_
        refine lv_icmp_ne (tgt := 40) C0.1 C0.2.1 d_MO_improve_27 (by decide) (fun c_27 => ?_) (fun c_27 => ?_)
        · refine lv_iconst (v := nI 0) C0.1 C0.2.1 d_MO_improve_40 (by decide) ?_
          exact ti (show nI 0 = bI (inB kd u0 e0 u v) from by unfold inB; rw [decide_eq_false (show ¬ (kd v ≠ 0) from fun q => q ((nI_eq (by have := hk v; omega) (by decide)).mp c_21)), decide_eq_false (show ¬ v = e0 from fun q => c_27 (by rw [q])), Bool.or_self, Bool.false_and, Bool.and_false]; rfl) T41
        · have g2 : (decide (kd v ≠ 0) || decide (v = e0)) = true := by rw [decide_eq_true ((nI_eq (by omega) (by omega)).mp c_27), Bool.or_true]
          refine lv_iload_n C0.1 C0.2.1 d_MO_improve_30 rfl (lv_at hl 2 rfl) ?_
          refine lv_iload C0.1 C0.2.1 d_MO_improve_31 (lv_at hl 5 rfl) ?_
          refine lv_icmp_eq (tgt := 40) C0.1 C0.2.1 d_MO_improve_33 (by decide) (fun c_33 => ?_) (fun c_33 => ?_)
          · refine lv_iconst (v := nI 0) C0.1 C0.2.1 d_MO_improve_40 (by decide) ?_
            exact ti (show nI 0 = bI (inB kd u0 e0 u v) from by unfold inB; rw [decide_eq_false (show ¬ (u ≠ e0) from fun q => q ((nI_eq (by omega) (by omega)).mp c_33)), Bool.and_false, Bool.and_false]; rfl) T41
          · refine lv_iconst (v := nI 1) C0.1 C0.2.1 d_MO_improve_36 (by decide) ?_
            refine lv_goto (tgt := 41) C0.1 C0.2.1 d_MO_improve_37 (by decide) ?_
            exact ti (show nI 1 = bI (inB kd u0 e0 u v) from by unfold inB; rw [g1, g2, decide_eq_true (show u ≠ e0 from fun q => c_33 (by rw [q]))]; rfl) T41
    · refine lv_iload_n C0.1 C0.2.1 d_MO_improve_9 rfl (lv_at hl 2 rfl) ?_
      refine lv_iload C0.1 C0.2.1 d_MO_improve_10 (lv_at hl 4 rfl) ?_
      refine lv_icmp_ne (tgt := 40) C0.1 C0.2.1 d_MO_improve_12 (by decide) (fun c_12 => ?_) (fun c_12 => ?_)
      · refine lv_iconst (v := nI 0) C0.1 C0.2.1 d_MO_improve_40 (by decide) ?_
        exact ti (show nI 0 = bI (inB kd u0 e0 u v) from by unfold inB; rw [decide_eq_false (show ¬ (kd u ≠ 0) from fun q => q ((nI_eq (by have := hk u; omega) (by decide)).mp c_6)), decide_eq_false (show ¬ u = u0 from fun q => c_12 (by rw [q]))]; rfl) T41
      · have g1 : (decide (kd u ≠ 0) || decide (u = u0)) = true := by rw [decide_eq_true ((nI_eq (by omega) (by omega)).mp c_12), Bool.or_true]
        refine lv_aload_n C0.1 C0.2.1 d_MO_improve_15 rfl (lv_at hl 0 rfl) ?_
        refine gf_MO_9 C0 hB.1 0 rfl rfl d_MO_improve_16 ?_
        refine lv_iload_n C0.1 C0.2.1 d_MO_improve_19 rfl (lv_at hl 3 rfl) ?_
        refine ald_i C0 hB.1 1 0 rfl rfl (by omega) (by decide) d_MO_improve_20 ?_
        refine lv_if_ne (tgt := 30) C0.1 C0.2.1 d_MO_improve_21 (by decide) (fun c_21 => ?_) (fun c_21 => ?_)
        · have g2 : (decide (kd v ≠ 0) || decide (v = e0)) = true := by rw [decide_eq_true (show kd v ≠ 0 from fun q => c_21 (by rw [q]; rfl))]; rfl
          refine lv_iload_n C0.1 C0.2.1 d_MO_improve_30 rfl (lv_at hl 2 rfl) ?_
          refine lv_iload C0.1 C0.2.1 d_MO_improve_31 (lv_at hl 5 rfl) ?_
          refine lv_icmp_eq (tgt := 40) C0.1 C0.2.1 d_MO_improve_33 (by decide) (fun c_33 => ?_) (fun c_33 => ?_)
          · refine lv_iconst (v := nI 0) C0.1 C0.2.1 d_MO_improve_40 (by decide) ?_
            exact ti (show nI 0 = bI (inB kd u0 e0 u v) from by unfold inB; rw [decide_eq_false (show ¬ (u ≠ e0) from fun q => q ((nI_eq (by omega) (by omega)).mp c_33)), Bool.and_false, Bool.and_false]; rfl) T41
          · refine lv_iconst (v := nI 1) C0.1 C0.2.1 d_MO_improve_36 (by decide) ?_
            refine lv_goto (tgt := 41) C0.1 C0.2.1 d_MO_improve_37 (by decide) ?_
            exact ti (show nI 1 = bI (inB kd u0 e0 u v) from by unfold inB; rw [g1, g2, decide_eq_true (show u ≠ e0 from fun q => c_33 (by rw [q]))]; rfl) T41
        · refine lv_iload_n C0.1 C0.2.1 d_MO_improve_24 rfl (lv_at hl 3 rfl) ?_
          refine lv_iload C0.1 C0.2.1 d_MO_improve_25 (lv_at hl 5 rfl) ?_
          refine lv_icmp_ne (tgt := 40) C0.1 C0.2.1 d_MO_improve_27 (by decide) (fun c_27 => ?_) (fun c_27 => ?_)
          · refine lv_iconst (v := nI 0) C0.1 C0.2.1 d_MO_improve_40 (by decide) ?_
            exact ti (show nI 0 = bI (inB kd u0 e0 u v) from by unfold inB; rw [decide_eq_false (show ¬ (kd v ≠ 0) from fun q => q ((nI_eq (by have := hk v; omega) (by decide)).mp c_21)), decide_eq_false (show ¬ v = e0 from fun q => c_27 (by rw [q])), Bool.or_self, Bool.false_and, Bool.and_false]; rfl) T41
          · have g2 : (decide (kd v ≠ 0) || decide (v = e0)) = true := by rw [decide_eq_true ((nI_eq (by omega) (by omega)).mp c_27), Bool.or_true]
            refine lv_iload_n C0.1 C0.2.1 d_MO_improve_30 rfl (lv_at hl 2 rfl) ?_
            refine lv_iload C0.1 C0.2.1 d_MO_improve_31 (lv_at hl 5 rfl) ?_
            refine lv_icmp_eq (tgt := 40) C0.1 C0.2.1 d_MO_improve_33 (by decide) (fun c_33 => ?_) (fun c_33 => ?_)
            · refine lv_iconst (v := nI 0) C0.1 C0.2.1 d_MO_improve_40 (by decide) ?_
              exact ti (show nI 0 = bI (inB kd u0 e0 u v) from by unfold inB; rw [decide_eq_false (show ¬ (u ≠ e0) from fun q => q ((nI_eq (by omega) (by omega)).mp c_33)), Bool.and_false, Bool.and_false]; rfl) T41
            · refine lv_iconst (v := nI 1) C0.1 C0.2.1 d_MO_improve_36 (by decide) ?_
              refine lv_goto (tgt := 41) C0.1 C0.2.1 d_MO_improve_37 (by decide) ?_
              exact ti (show nI 1 = bI (inB kd u0 e0 u v) from by unfold inB; rw [g1, g2, decide_eq_true (show u ≠ e0 from fun q => c_33 (by rw [q]))]; rfl) T41
end MODEL2

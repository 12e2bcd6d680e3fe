/-! ===== the Model: the window ===== -/
def GA (c : Cfg) (mu : Nat → Nat → Bool) (a b w : Nat) : Bool := !decide (tT c a w = -9) && (!decide (tT c b w = -9) && mu (eT c a w).toNat (eT c b w).toNat)
def AL (c : Cfg) (m : Nat) : Nat → Nat → Nat → Bool
  | 0 => fun _ _ => true
  | k + 1 => fun a b => (decide (a < nS c) && decide (b < nS c)) && anyN (GA c (AL c m k) a b) m
theorem GA_f {c : Cfg} (hv : Vld c) {mu : Nat → Nat → Bool} {a b w : Nat} (h : ¬ (w : Int) < 2 ^ c.2.2.2.2.toNat) : GA c mu a b w = false := by unfold GA; rw [tT_o2 hv h]; rfl
theorem anyN_pad {f : Nat → Bool} {m : Nat} (h : ∀ w, m ≤ w → f w = false) : ∀ {k}, m ≤ k → anyN f k = anyN f m := by
  intro k hk
  obtain ⟨d, rfl⟩ : ∃ d, k = m + d := ⟨k - m, by omega⟩
  clear hk
  induction d with
  | zero => rfl
  | succ d ih => show (anyN f (m + d) || f (m + d)) = _; rw [h _ (by omega), ih, Bool.or_false]
theorem GO_AL {c : Cfg} (hv : Vld c) {m : Nat} (hm : (m : Int) = 2 ^ c.2.2.2.2.toNat) : ∀ (k a b w : Nat), GOc (tT c) (eT c) (muK (tT c) (eT c) (Gd c) (nS c) k) a b w = GA c (AL c m k) a b w := by
  have hS := nS_rng hv
  have hq := pw16 hv.2.2.2.1 hv.2.2.2.2
  have st : ∀ (mu mu2 : Nat → Nat → Bool) (a b w : Nat), (∀ x y, x < nS c → y < nS c → Gd c y = true → mu x y = mu2 x y) → GOc (tT c) (eT c) mu a b w = GA c mu2 a b w := by
    intro mu mu2 a b w h
    unfold GOc GA
    by_cases h1 : tT c a w = -9
    · rw [decide_eq_true h1]; rfl
    · by_cases h2 : tT c b w = -9
      · rw [decide_eq_true h2]; simp
      · obtain ⟨-, -, -, -, -, x, x1, x2, x3⟩ := tT_good hv h1
        obtain ⟨-, -, -, -, -, y, y1, y2, y3⟩ := tT_good hv h2
        rw [x3, y3, Int.toNat_natCast, Int.toNat_natCast, decide_eq_true (show 0 ≤ (x : Int) ∧ (x : Int) < 7 by omega), inS_nat (by omega), h x y x1 y1 y2]
        rfl
  intro k
  induction k with
  | zero => exact fun a b w => st _ _ a b w (fun x y hx hy hg => by show (decide (y < nS c) && Gd c y) = true; rw [decide_eq_true hy, hg]; rfl)
  | succ k ih => exact fun a b w => st _ _ a b w (fun x y hx hy hg => by
      show anyN (GOc (tT c) (eT c) (muK (tT c) (eT c) (Gd c) (nS c) k) x y) 16 = ((decide (x < nS c) && decide (y < nS c)) && anyN (GA c (AL c m k) x y) m)
      rw [decide_eq_true hx, decide_eq_true hy, anyN_cong (fun w _ => ih x y w), anyN_pad (fun w hw => GA_f hv (by omega)) (show m ≤ 16 by omega)]
      rfl)
theorem FW_mu {c : Cfg} (hv : Vld c) {f : Nat → Int} : ∀ (k i x y : Nat), x < nS c → y < nS c → Gd c y = true → ¬ FW (tT c) (eT c) f k i x = -9 → ¬ FW (tT c) (eT c) f k i y = -9 → muK (tT c) (eT c) (Gd c) (nS c) k x y = true
  | 0, i, x, y, hx, hy, hg, h1, h2 => by show (decide (y < nS c) && Gd c y) = true; rw [decide_eq_true hy, hg]; rfl
  | k + 1, i, x, y, hx, hy, hg, h1, h2 => by
    have hS := nS_rng hv
    unfold FW at h1 h2
    by_cases c1 : Ex (tT c) x (f i) = -9
    · rw [if_pos c1] at h1; exact absurd rfl h1
    · by_cases c2 : Ex (tT c) y (f i) = -9
      · rw [if_pos c2] at h2; exact absurd rfl h2
      · rw [if_neg c1] at h1
        rw [if_neg c2] at h2
        obtain ⟨-, -, a3, a4, a5⟩ := Ex_ne c1
        obtain ⟨-, -, -, -, b5⟩ := Ex_ne c2
        obtain ⟨w, hw⟩ := Int.eq_ofNat_of_zero_le a3
        rw [hw] at h1 h2 a5 b5 c1 c2 a4
        rw [Int.toNat_natCast, Int.toNat_natCast] at a5 b5
        rw [a5] at c1
        rw [b5] at c2
        obtain ⟨-, -, -, -, -, p, p1, p2, p3⟩ := tT_good hv c1
        obtain ⟨-, -, -, -, -, q, q1, q2, q3⟩ := tT_good hv c2
        rw [Ex_n (by omega) (by omega), p3] at h1
        rw [Ex_n (by omega) (by omega), q3] at h2
        have ih := FW_mu hv k (i + 1) p q p1 q1 q2 h1 h2
        show anyN (GOc (tT c) (eT c) (muK (tT c) (eT c) (Gd c) (nS c) k) x y) 16 = true
        refine anyN_t (i := w) ?_ (by omega)
        unfold GOc
        rw [decide_eq_false c1, decide_eq_false c2, p3, q3, Int.toNat_natCast, decide_eq_true (show 0 ≤ (p : Int) ∧ (p : Int) < 7 by omega), inS_nat (by omega), ih]
        rfl
theorem win_same {c : Cfg} (hv : Vld c) {f : Nat → Int} {k : Nat} (hd : dbt (tT c) (eT c) (muK (tT c) (eT c) (Gd c) (nS c) k) (nS c) = false) {i a b : Nat} (ha : a < nS c) (hb : b < nS c) (h1 : ¬ FW (tT c) (eT c) f (k + 1) i a = -9) (h2 : ¬ FW (tT c) (eT c) f (k + 1) i b = -9) : Ex (tT c) a (f i) = Ex (tT c) b (f i) := by
  have hS := nS_rng hv
  have key : ∀ a b : Nat, a < nS c → b < a → ¬ FW (tT c) (eT c) f (k + 1) i a = -9 → ¬ FW (tT c) (eT c) f (k + 1) i b = -9 → Ex (tT c) a (f i) = Ex (tT c) b (f i) := by
    intro a b ha hb h1 h2
    unfold FW at h1 h2
    by_cases c1 : Ex (tT c) a (f i) = -9
    · rw [if_pos c1] at h1; exact absurd rfl h1
    · by_cases c2 : Ex (tT c) b (f i) = -9
      · rw [if_pos c2] at h2; exact absurd rfl h2
      · rw [if_neg c1] at h1
        rw [if_neg c2] at h2
        obtain ⟨-, -, a3, a4, a5⟩ := Ex_ne c1
        obtain ⟨-, -, -, -, b5⟩ := Ex_ne c2
        obtain ⟨w, hw⟩ := Int.eq_ofNat_of_zero_le a3
        rw [hw] at h1 h2 a5 b5 c1 c2 a4 ⊢
        rw [Int.toNat_natCast, Int.toNat_natCast] at a5 b5
        rw [a5] at c1
        rw [b5] at c2
        obtain ⟨-, -, -, -, -, p, p1, p2, p3⟩ := tT_good hv c1
        obtain ⟨-, -, -, -, -, q, q1, q2, q3⟩ := tT_good hv c2
        rw [Ex_n (by omega) (by omega), p3] at h1
        rw [Ex_n (by omega) (by omega), q3] at h2
        have ih := FW_mu hv k (i + 1) p q p1 q1 q2 h1 h2
        have d1 := anyN_0 hd a ha
        have d2 := anyN_0 d1 b hb
        have d3 := anyN_0 d2 w (by omega)
        unfold dB GOc at d3
        rw [decide_eq_false c1, decide_eq_false c2, p3, q3, Int.toNat_natCast, decide_eq_true (show 0 ≤ (p : Int) ∧ (p : Int) < 7 by omega), inS_nat (by omega), ih] at d3
        rw [a5, b5]
        simpa using d3
  rcases Nat.lt_trichotomy a b with h | h | h
  · exact (key b a hb h h2 h1).symm
  · rw [h]
  · exact key a b ha h h1 h2
def RowA (v : Nat → Nat → Int) (c : Cfg) (m k : Nat) : Prop := ∀ x y : Nat, x < 7 → y < 7 → v 84 (49 * k + 7 * x + y) = b2i (AL c m k x y)
section MOW
variable {g : GL} {sh : List (Nat × Nat)} {rf : Nat → Nat → Option Nat} {v : Nat → Nat → Int} {c : Cfg} {S : St}

set_option maxHeartbeats 4000000 in
set_option maxRecDepth 100000 in
theorem m_goOn (hs : ExtM sh) (hr : RokM rf) (hm : CM v c) (hv : Vld c) (hQ : FQ v c) {m a b w : Nat} {st : Nat} (hmq : (m : Int) = 2 ^ c.2.2.2.2.toNat) (hA : RowA v c m st) (hst : st < 4) (ha : a < nS c) (hb : b < nS c) (hw : w < m) : Cv g mX7_goOn [aR 70, aI (a : Int), aI (b : Int), aI (w : Int), aI (st : Int)] (sh, rf, v) (retI (b2i (GA c (AL c m st) a b w)) (sh, rf, v)) := by
  have hS := nS_rng hv
  have hd := nd_rng hv
  have hq := pw16 hv.2.2.2.1 hv.2.2.2.2
  obtain ⟨hvB, hp1, hp2, hq1, hq2⟩ := id hv
  obtain ⟨f1, f2, f3, f4⟩ := id hQ
  refine x_entry (ls := [some (aR 70), some (aI (a : Int)), some (aI (b : Int)), some (aI (w : Int)), some (aI (st : Int)), none]) rfl rfl (Nat.le_of_ble_eq_true rfl) ?_
  refine x_al_n (q := 1) dX7_goOn_0 rfl rfl ?_
  refine x_il_n (q := 2) dX7_goOn_1 rfl rfl ?_
  refine x_il_n (q := 3) dX7_goOn_2 rfl rfl ?_
  refine x_VI (q := 6) (ci := 7) dX7_goOn_3 rfl kX7_goOn_149 (m_tag hs hr hm hv (s := a) f2 (by omega) ha) rfl rfl (hs _ _ rfl) (by decide) rfl (Nat.le_of_ble_eq_true rfl) ⟨rfl, rfl⟩ ⟨Nat.zero_le _, Nat.zero_le _⟩ ?_
  rw [Ex_n (by omega) (by omega)]
  refine x_bi (q := 8) dX7_goOn_6 rfl rfl ?_
  refine x_ic_eq (t := 26) (q := 11) dX7_goOn_8 rfl rfl (fun c_8 => ?_) (fun c_8 => ?_)
  · skip
    have hG : GA c (AL c m st) a b w = false := by unfold GA; rw [decide_eq_true c_8]; rfl
    refine x_ic (q := 27) dX7_goOn_26 rfl rfl ?_
    refine x_is5 (q := 29) dX7_goOn_27 rfl rfl ?_
    refine x_il (q := 31) dX7_goOn_29 rfl rfl ?_
    refine x_if_eq (t := 68) (q := 34) dX7_goOn_31 rfl rfl (fun c_31 => ?_) (fun c_31 => ?_)
    · skip
      refine x_ic (q := 69) dX7_goOn_68 rfl rfl ?_
      exact x_zret dX7_goOn_69 rfl (by first | exact .inl rfl | exact .inr rfl | exact b2i_01 _) rfl (Nat.zero_le _) (retI_mk (by rw [hG]; rfl))
    · skip
      exact absurd c_31 (by decide)
  · skip
    refine x_al_n (q := 12) dX7_goOn_11 rfl rfl ?_
    refine x_il_n (q := 13) dX7_goOn_12 rfl rfl ?_
    refine x_il_n (q := 14) dX7_goOn_13 rfl rfl ?_
    refine x_VI (q := 17) (ci := 7) dX7_goOn_14 rfl kX7_goOn_149 (m_tag hs hr hm hv (s := b) f2 (by omega) hb) rfl rfl (hs _ _ rfl) (by decide) rfl (Nat.le_of_ble_eq_true rfl) ⟨rfl, rfl⟩ ⟨Nat.zero_le _, Nat.zero_le _⟩ ?_
    rw [Ex_n (by omega) (by omega)]
    refine x_bi (q := 19) dX7_goOn_17 rfl rfl ?_
    refine x_ic_eq (t := 26) (q := 22) dX7_goOn_19 rfl rfl (fun c_19 => ?_) (fun c_19 => ?_)
    · skip
      have hG : GA c (AL c m st) a b w = false := by unfold GA; rw [decide_eq_true c_19]; simp
      refine x_ic (q := 27) dX7_goOn_26 rfl rfl ?_
      refine x_is5 (q := 29) dX7_goOn_27 rfl rfl ?_
      refine x_il (q := 31) dX7_goOn_29 rfl rfl ?_
      refine x_if_eq (t := 68) (q := 34) dX7_goOn_31 rfl rfl (fun c_31 => ?_) (fun c_31 => ?_)
      · skip
        refine x_ic (q := 69) dX7_goOn_68 rfl rfl ?_
        exact x_zret dX7_goOn_69 rfl (by first | exact .inl rfl | exact .inr rfl | exact b2i_01 _) rfl (Nat.zero_le _) (retI_mk (by rw [hG]; rfl))
      · skip
        exact absurd c_31 (by decide)
    · skip
      obtain ⟨-, -, -, -, -, p, p1, p2, p3⟩ := tT_good hv c_8
      obtain ⟨-, -, -, -, -, q, q1, q2, q3⟩ := tT_good hv c_19
      have hG : GA c (AL c m st) a b w = AL c m st p q := by unfold GA; rw [decide_eq_false c_8, decide_eq_false c_19, p3, q3, Int.toNat_natCast, Int.toNat_natCast]; rfl
      refine x_ic (q := 23) dX7_goOn_22 rfl rfl ?_
      refine x_goto (t := 27) dX7_goOn_23 rfl ?_
      refine x_is5 (q := 29) dX7_goOn_27 rfl rfl ?_
      refine x_il (q := 31) dX7_goOn_29 rfl rfl ?_
      refine x_if_eq (t := 68) (q := 34) dX7_goOn_31 rfl rfl (fun c_31 => ?_) (fun c_31 => ?_)
      · skip
        exact absurd c_31 (by decide)
      · skip
        refine x_al_n (q := 35) dX7_goOn_34 rfl rfl ?_
        refine x_getR (q := 38) (o := some (84)) dX7_goOn_35 rfl fX7_50 (hs _ _ rfl) rfl (hr _ _ rfl) ?_
        refine x_bi (q := 40) dX7_goOn_38 rfl rfl ?_
        refine x_il (q := 42) dX7_goOn_40 rfl rfl ?_
        refine x_mul (q := 43) dX7_goOn_42 rfl ⟨by omega, by omega⟩ ?_
        refine x_bi (q := 45) dX7_goOn_43 rfl rfl ?_
        refine x_al_n (q := 46) dX7_goOn_45 rfl rfl ?_
        refine x_il_n (q := 47) dX7_goOn_46 rfl rfl ?_
        refine x_il_n (q := 48) dX7_goOn_47 rfl rfl ?_
        refine x_VI (q := 51) (ci := 7) dX7_goOn_48 rfl kX7_goOn_89 (m_lead hs hr hm hv (s := a) f1 (by omega) ha) rfl rfl (hs _ _ rfl) (by decide) rfl (Nat.le_of_ble_eq_true rfl) ⟨rfl, rfl⟩ ⟨Nat.zero_le _, Nat.zero_le _⟩ ?_
        rw [Ex_n (by omega) (by omega)]
        rw [p3]
        refine x_mul (q := 52) dX7_goOn_51 rfl ⟨by omega, by omega⟩ ?_
        refine x_add (q := 53) dX7_goOn_52 rfl ⟨by omega, by omega⟩ ?_
        refine x_al_n (q := 54) dX7_goOn_53 rfl rfl ?_
        refine x_il_n (q := 55) dX7_goOn_54 rfl rfl ?_
        refine x_il_n (q := 56) dX7_goOn_55 rfl rfl ?_
        refine x_VI (q := 59) (ci := 7) dX7_goOn_56 rfl kX7_goOn_89 (m_lead hs hr hm hv (s := b) f1 (by omega) hb) rfl rfl (hs _ _ rfl) (by decide) rfl (Nat.le_of_ble_eq_true rfl) ⟨rfl, rfl⟩ ⟨Nat.zero_le _, Nat.zero_le _⟩ ?_
        rw [Ex_n (by omega) (by omega)]
        rw [q3]
        refine x_add (q := 60) dX7_goOn_59 rfl ⟨by omega, by omega⟩ ?_
        refine x_zalde (q := 61) (z := b2i (AL c m st p q)) dX7_goOn_60 rfl (hs _ _ rfl) (by omega) (by omega) (by rw [show (49 * (st : Int) + 7 * (p : Int) + (q : Int)).toNat = 49 * st + 7 * p + q by omega]; exact hA p q (by omega) (by omega)) ?_
        refine x_if_eq (t := 68) (q := 64) dX7_goOn_61 rfl rfl (fun c_61 => ?_) (fun c_61 => ?_)
        · skip
          rw [b2i_0.mp c_61] at hG
          refine x_ic (q := 69) dX7_goOn_68 rfl rfl ?_
          exact x_zret dX7_goOn_69 rfl (by first | exact .inl rfl | exact .inr rfl | exact b2i_01 _) rfl (Nat.zero_le _) (retI_mk (by rw [hG]; rfl))
        · skip
          rw [b2i_n0.mp c_61] at hG
          refine x_ic (q := 65) dX7_goOn_64 rfl rfl ?_
          refine x_goto (t := 69) dX7_goOn_65 rfl ?_
          exact x_zret dX7_goOn_69 rfl (by first | exact .inl rfl | exact .inr rfl | exact b2i_01 _) rfl (Nat.zero_le _) (retI_mk (by rw [hG]; rfl))
set_option maxHeartbeats 4000000 in
set_option maxRecDepth 100000 in
theorem m_layAlike (hs : ExtM sh) (hr : RokM rf) (hm : CM v c) (hv : Vld c) (hQ : FQ v c) {m : Nat} (hmq : (m : Int) = 2 ^ c.2.2.2.2.toNat) : Cv g mX7_layAlike [aR 70] (sh, rf, v) (putL (fun u => (∀ k, k < 4 → RowA u c m k) ∧ ∀ d, d ≠ 84 → u d = v d) sh rf) := by
  have hS := nS_rng hv
  have hd := nd_rng hv
  have hq := pw16 hv.2.2.2.1 hv.2.2.2.2
  obtain ⟨hvB, hp1, hp2, hq1, hq2⟩ := id hv
  refine x_entry (ls := [some (aR 70), none, none, none, none, none, none]) rfl rfl (Nat.le_of_ble_eq_true rfl) ?_
  refine x_ic (q := 1) dX7_layAlike_0 rfl rfl ?_
  refine x_is1 (q := 2) dX7_layAlike_1 rfl rfl ?_
  refine x_up (S := fun t => ∀ (u : Nat → Nat → Int) (o2 o3 o4 o5 o6 : Option AV), ((∀ m1 k1 : Nat, m1 < 4 → k1 < 49 → (m1 < t ∨ (m1 = t ∧ k1 < 0)) → u 84 (49 * m1 + k1) = b2i (AL c m m1 (k1 / 7) (k1 % 7))) ∧ ∀ d, d ≠ 84 → u d = v d) → Wv g mX7_layAlike 0 0 2 [some (aR 70), some (aI ((t : Int))), o2, o3, o4, o5, o6] [] (sh, rf, u) (putL (fun u => (∀ k, k < 4 → RowA u c m k) ∧ ∀ d, d ≠ 84 → u d = v d) sh rf)) 4 ?_ ?_ 0 (by decide) v none none none none none ⟨fun m1 k1 _ _ h => by omega, fun _ _ => rfl⟩
  · intro u o2 o3 o4 o5 o6 ⟨hu1, hu2⟩
    refine x_il_n (q := 3) dX7_layAlike_2 rfl rfl ?_
    refine x_ic (q := 4) dX7_layAlike_3 rfl rfl ?_
    refine x_ic_ge (t := 116) (q := 7) dX7_layAlike_4 rfl rfl (fun c_4 => ?_) (fun c_4 => ?_)
    · skip
      exact x_vret dX7_layAlike_116 rfl rfl (Nat.zero_le _) (by exact ⟨rfl, u, rfl, fun t ht x y hx hy => by have h9 := hu1 t (7 * x + y) ht (by omega) (.inl ht); rw [show 49 * t + (7 * x + y) = 49 * t + 7 * x + y by omega, show (7 * x + y) / 7 = x by omega, show (7 * x + y) % 7 = y by omega] at h9; exact h9, hu2⟩)
    · skip
      exact absurd (by decide) c_4
  · intro t ht ihs u o2 o3 o4 o5 o6 ⟨hu1, hu2⟩
    refine x_il_n (q := 3) dX7_layAlike_2 rfl rfl ?_
    refine x_ic (q := 4) dX7_layAlike_3 rfl rfl ?_
    refine x_ic_ge (t := 116) (q := 7) dX7_layAlike_4 rfl rfl (fun c_4 => ?_) (fun c_4 => ?_)
    · skip
      exact absurd c_4 (by omega)
    · skip
      refine x_ic (q := 8) dX7_layAlike_7 rfl rfl ?_
      refine x_is2 (q := 9) dX7_layAlike_8 rfl rfl ?_
      refine x_up (S := fun j => ∀ (u : Nat → Nat → Int) (o3 o4 o5 o6 : Option AV), ((∀ m1 k1 : Nat, m1 < 4 → k1 < 49 → (m1 < t ∨ (m1 = t ∧ k1 < j)) → u 84 (49 * m1 + k1) = b2i (AL c m m1 (k1 / 7) (k1 % 7))) ∧ ∀ d, d ≠ 84 → u d = v d) → Wv g mX7_layAlike 0 0 9 [some (aR 70), some (aI ((t : Int))), some (aI (j : Int)), o3, o4, o5, o6] [] (sh, rf, u) (putL (fun u => (∀ k, k < 4 → RowA u c m k) ∧ ∀ d, d ≠ 84 → u d = v d) sh rf)) 49 ?_ ?_ 0 (by decide) u o3 o4 o5 o6 ⟨hu1, hu2⟩
      · intro u o3 o4 o5 o6 ⟨hu1, hu2⟩
        refine x_il_n (q := 10) dX7_layAlike_9 rfl rfl ?_
        refine x_bi (q := 12) dX7_layAlike_10 rfl rfl ?_
        refine x_ic_ge (t := 110) (q := 15) dX7_layAlike_12 rfl rfl (fun c_12 => ?_) (fun c_12 => ?_)
        · skip
          refine x_ii1 (q := 113) dX7_layAlike_110 rfl rfl ⟨by omega, by omega⟩ ?_
          refine x_goto (t := 2) dX7_layAlike_113 rfl ?_
          exact ihs u _ _ _ _ _ ⟨fun m1 k1 a b h => hu1 m1 k1 a b (by omega), hu2⟩
        · skip
          exact absurd (by decide) c_12
      · intro j hj ih u o3 o4 o5 o6 ⟨hu1, hu2⟩
        have hmu : CM u c := hm.cong (hu2 71 (by decide))
        have hQu : FQ u c := hQ.cong (hu2 77 (by decide)) (hu2 78 (by decide)) (by rw [hu2 70 (by decide)]) (by rw [hu2 70 (by decide)])
        have hend : ∀ (z : Bool) (o6 : Option AV), z = AL c m t (j / 7) (j % 7) → Wv g mX7_layAlike 0 0 91 [some (aR 70), some (aI ((t : Int))), some (aI (j : Int)), some (aI ((j : Int) / 7)), some (aI ((j : Int) % 7)), some (aI (b2i z)), o6] [] (sh, rf, u) (putL (fun u => (∀ k, k < 4 → RowA u c m k) ∧ ∀ d, d ≠ 84 → u d = v d) sh rf) := by
          intro z o6 hz
          refine x_al_n (q := 92) dX7_layAlike_91 rfl rfl ?_
          refine x_getR (q := 95) (o := some (84)) dX7_layAlike_92 rfl fX7_50 (hs _ _ rfl) rfl (hr _ _ rfl) ?_
          refine x_bi (q := 97) dX7_layAlike_95 rfl rfl ?_
          refine x_il_n (q := 98) dX7_layAlike_97 rfl rfl ?_
          refine x_mul (q := 99) dX7_layAlike_98 rfl ⟨by omega, by omega⟩ ?_
          refine x_il_n (q := 100) dX7_layAlike_99 rfl rfl ?_
          refine x_add (q := 101) dX7_layAlike_100 rfl ⟨by omega, by omega⟩ ?_
          refine x_il (q := 103) dX7_layAlike_101 rfl rfl ?_
          refine x_zast (q := 104) dX7_layAlike_103 rfl (hs _ _ rfl) (by omega) (by omega) (by first | exact .inl rfl | exact .inr rfl | exact b2i_01 _) ?_
          refine x_ii2 (q := 107) dX7_layAlike_104 rfl rfl ⟨by omega, by omega⟩ ?_
          refine x_goto (t := 9) dX7_layAlike_107 rfl ?_
          rw [show (49 * (t : Int) + (j : Int)).toNat = 49 * t + j by omega]
          refine ih _ _ _ _ _ ⟨fun m1 k1 a b h => ?_, fun d hd => by rw [up_n _ _ _ hd]; exact hu2 d hd⟩
          rw [up_at]
          by_cases he : m1 = t ∧ k1 = j
          · obtain ⟨rfl, rfl⟩ := he
            rw [if_pos rfl, hz]
          · rw [if_neg (by omega)]
            exact hu1 m1 k1 a b (by omega)
        refine x_il_n (q := 10) dX7_layAlike_9 rfl rfl ?_
        refine x_bi (q := 12) dX7_layAlike_10 rfl rfl ?_
        refine x_ic_ge (t := 110) (q := 15) dX7_layAlike_12 rfl rfl (fun c_12 => ?_) (fun c_12 => ?_)
        · skip
          exact absurd c_12 (by omega)
        · skip
          refine x_il_n (q := 16) dX7_layAlike_15 rfl rfl ?_
          refine x_bi (q := 18) dX7_layAlike_16 rfl rfl ?_
          refine x_div (q := 19) dX7_layAlike_18 rfl (by omega) (by omega) ?_
          refine x_is3 (q := 20) dX7_layAlike_19 rfl rfl ?_
          refine x_il_n (q := 21) dX7_layAlike_20 rfl rfl ?_
          refine x_bi (q := 23) dX7_layAlike_21 rfl rfl ?_
          refine x_rem (q := 24) dX7_layAlike_23 rfl (by omega) (by omega) ?_
          refine x_is4 (q := 26) dX7_layAlike_24 rfl rfl ?_
          refine x_il_n (q := 27) dX7_layAlike_26 rfl rfl ?_
          refine x_if_ne (t := 34) (q := 30) dX7_layAlike_27 rfl rfl (fun c_27 => ?_) (fun c_27 => ?_)
          · skip
            refine x_ic (q := 35) dX7_layAlike_34 rfl rfl ?_
            refine x_is5 (q := 37) dX7_layAlike_35 rfl rfl ?_
            refine x_ic (q := 38) dX7_layAlike_37 rfl rfl ?_
            refine x_is6 (q := 40) dX7_layAlike_38 rfl rfl ?_
            obtain ⟨t1, rfl⟩ : ∃ t1, t = t1 + 1 := ⟨t - 1, by omega⟩
            by_cases hab : j / 7 < nS c ∧ j % 7 < nS c
            · have hAL : AL c m (t1 + 1) (j / 7) (j % 7) = anyN (GA c (AL c m t1) (j / 7) (j % 7)) m := by show ((decide _ && decide _) && _) = _; rw [decide_eq_true hab.1, decide_eq_true hab.2]; rfl
              have hAr : RowA u c m t1 := fun x y hx hy => by have h9 := hu1 t1 (7 * x + y) (by omega) (by omega) (.inl (by omega)); rw [show 49 * t1 + (7 * x + y) = 49 * t1 + 7 * x + y by omega, show (7 * x + y) / 7 = x by omega, show (7 * x + y) % 7 = y by omega] at h9; exact h9
              refine x_up (S := fun w => Wv g mX7_layAlike 0 0 40 [some (aR 70), some (aI (((t1 + 1 : Nat) : Int))), some (aI (j : Int)), some (aI ((j : Int) / 7)), some (aI ((j : Int) % 7)), some (aI (b2i (anyN (GA c (AL c m t1) (j / 7) (j % 7)) w))), some (aI (w : Int))] [] (sh, rf, u) (putL (fun u => (∀ k, k < 4 → RowA u c m k) ∧ ∀ d, d ≠ 84 → u d = v d) sh rf)) m ?_ ?_ 0 (Nat.zero_le _)
              · skip
                refine x_il (q := 42) dX7_layAlike_40 rfl rfl ?_
                refine x_al_n (q := 43) dX7_layAlike_42 rfl rfl ?_
                refine x_VI (q := 46) (ci := 7) dX7_layAlike_43 rfl kX7_layAlike_78 (m_words hs hr hmu hv) rfl rfl (hs _ _ rfl) (by decide) rfl (Nat.le_of_ble_eq_true rfl) ⟨rfl, rfl⟩ ⟨Nat.zero_le _, Nat.zero_le _⟩ ?_
                rw [← hmq]
                refine x_ic_ge (t := 91) (q := 49) dX7_layAlike_46 rfl rfl (fun c_46 => ?_) (fun c_46 => ?_)
                · skip
                  exact hend _ _ hAL.symm
                · skip
                  exact absurd (Int.le_refl _) c_46
              · intro w hwm ihw
                refine x_il (q := 42) dX7_layAlike_40 rfl rfl ?_
                refine x_al_n (q := 43) dX7_layAlike_42 rfl rfl ?_
                refine x_VI (q := 46) (ci := 7) dX7_layAlike_43 rfl kX7_layAlike_78 (m_words hs hr hmu hv) rfl rfl (hs _ _ rfl) (by decide) rfl (Nat.le_of_ble_eq_true rfl) ⟨rfl, rfl⟩ ⟨Nat.zero_le _, Nat.zero_le _⟩ ?_
                rw [← hmq]
                refine x_ic_ge (t := 91) (q := 49) dX7_layAlike_46 rfl rfl (fun c_46 => ?_) (fun c_46 => ?_)
                · skip
                  exact absurd c_46 (by omega)
                · skip
                  refine x_il (q := 51) dX7_layAlike_49 rfl rfl ?_
                  refine x_if_ne (t := 91) (q := 54) dX7_layAlike_51 rfl rfl (fun c_51 => ?_) (fun c_51 => ?_)
                  · skip
                    have hz := b2i_n0.mp c_51
                    refine hend _ _ ?_
                    rw [hAL, hz]
                    obtain ⟨w0, w1, w2⟩ := anyN_ex hz
                    exact (anyN_t w2 (by omega)).symm
                  · skip
                    have hz := b2i_0.mp c_51
                    refine x_al_n (q := 55) dX7_layAlike_54 rfl rfl ?_
                    refine x_il_n (q := 56) dX7_layAlike_55 rfl rfl ?_
                    refine x_VI (q := 59) (ci := 7) dX7_layAlike_56 rfl kX7_layAlike_152 (m_isState hs hr hmu hv) rfl rfl (hs _ _ rfl) (by decide) rfl (Nat.le_of_ble_eq_true rfl) ⟨rfl, rfl⟩ ⟨Nat.zero_le _, Nat.zero_le _⟩ ?_
                    refine x_if_eq (t := 91) (q := 62) dX7_layAlike_59 rfl rfl (fun c_59 => ?_) (fun c_59 => ?_)
                    · skip
                      exact absurd (of_decide_eq_false (b2i_0.mp c_59)) (by omega)
                    · skip
                      refine x_al_n (q := 63) dX7_layAlike_62 rfl rfl ?_
                      refine x_il (q := 65) dX7_layAlike_63 rfl rfl ?_
                      refine x_VI (q := 68) (ci := 7) dX7_layAlike_65 rfl kX7_layAlike_152 (m_isState hs hr hmu hv) rfl rfl (hs _ _ rfl) (by decide) rfl (Nat.le_of_ble_eq_true rfl) ⟨rfl, rfl⟩ ⟨Nat.zero_le _, Nat.zero_le _⟩ ?_
                      refine x_if_eq (t := 91) (q := 71) dX7_layAlike_68 rfl rfl (fun c_68 => ?_) (fun c_68 => ?_)
                      · skip
                        exact absurd (of_decide_eq_false (b2i_0.mp c_68)) (by omega)
                      · skip
                        refine x_al_n (q := 72) dX7_layAlike_71 rfl rfl ?_
                        refine x_il_n (q := 73) dX7_layAlike_72 rfl rfl ?_
                        refine x_il (q := 75) dX7_layAlike_73 rfl rfl ?_
                        refine x_il (q := 77) dX7_layAlike_75 rfl rfl ?_
                        refine x_il_n (q := 78) dX7_layAlike_77 rfl rfl ?_
                        refine x_ic (q := 79) dX7_layAlike_78 rfl rfl ?_
                        refine x_sub (q := 80) dX7_layAlike_79 rfl ⟨by omega, by omega⟩ ?_
                        rw [show ((t1 + 1 : Nat) : Int) - 1 = (t1 : Int) by omega]
                        refine x_VI (q := 83) (ci := 7) dX7_layAlike_80 rfl kX7_layAlike_166 (m_goOn hs hr hmu hv hQu (a := j / 7) (b := j % 7) (st := t1) hmq hAr (by omega) hab.1 hab.2 hwm) rfl rfl (hs _ _ rfl) (by decide) rfl (Nat.le_of_ble_eq_true rfl) ⟨rfl, rfl⟩ ⟨Nat.zero_le _, Nat.zero_le _⟩ ?_
                        refine x_is5 (q := 85) dX7_layAlike_83 rfl rfl ?_
                        refine x_ii6 (q := 88) dX7_layAlike_85 rfl rfl ⟨by omega, by omega⟩ ?_
                        refine x_goto (t := 40) dX7_layAlike_88 rfl ?_
                        rw [show anyN (GA c (AL c m t1) (j / 7) (j % 7)) (w + 1) = (GA c (AL c m t1) (j / 7) (j % 7)) w by show (anyN (GA c (AL c m t1) (j / 7) (j % 7)) w || _) = _; rw [hz]; rfl] at ihw
                        exact ihw
            · have hAL : AL c m (t1 + 1) (j / 7) (j % 7) = false := by show ((decide _ && decide _) && _) = _; rcases Decidable.not_and_iff_or_not.mp hab with q | q; rw [decide_eq_false q]; rfl; rw [decide_eq_false q, Bool.and_false]; rfl
              refine x_il (q := 42) dX7_layAlike_40 rfl rfl ?_
              refine x_al_n (q := 43) dX7_layAlike_42 rfl rfl ?_
              refine x_VI (q := 46) (ci := 7) dX7_layAlike_43 rfl kX7_layAlike_78 (m_words hs hr hmu hv) rfl rfl (hs _ _ rfl) (by decide) rfl (Nat.le_of_ble_eq_true rfl) ⟨rfl, rfl⟩ ⟨Nat.zero_le _, Nat.zero_le _⟩ ?_
              rw [← hmq]
              refine x_ic_ge (t := 91) (q := 49) dX7_layAlike_46 rfl rfl (fun c_46 => ?_) (fun c_46 => ?_)
              · skip
                exact hend false _ hAL.symm
              · skip
                refine x_il (q := 51) dX7_layAlike_49 rfl rfl ?_
                refine x_if_ne (t := 91) (q := 54) dX7_layAlike_51 rfl rfl (fun c_51 => ?_) (fun c_51 => ?_)
                · skip
                  exact absurd c_51 (by decide)
                · skip
                  refine x_al_n (q := 55) dX7_layAlike_54 rfl rfl ?_
                  refine x_il_n (q := 56) dX7_layAlike_55 rfl rfl ?_
                  refine x_VI (q := 59) (ci := 7) dX7_layAlike_56 rfl kX7_layAlike_152 (m_isState hs hr hmu hv) rfl rfl (hs _ _ rfl) (by decide) rfl (Nat.le_of_ble_eq_true rfl) ⟨rfl, rfl⟩ ⟨Nat.zero_le _, Nat.zero_le _⟩ ?_
                  refine x_if_eq (t := 91) (q := 62) dX7_layAlike_59 rfl rfl (fun c_59 => ?_) (fun c_59 => ?_)
                  · skip
                    exact hend false _ hAL.symm
                  · skip
                    have e_59 := of_decide_eq_true (b2i_n0.mp c_59)
                    refine x_al_n (q := 63) dX7_layAlike_62 rfl rfl ?_
                    refine x_il (q := 65) dX7_layAlike_63 rfl rfl ?_
                    refine x_VI (q := 68) (ci := 7) dX7_layAlike_65 rfl kX7_layAlike_152 (m_isState hs hr hmu hv) rfl rfl (hs _ _ rfl) (by decide) rfl (Nat.le_of_ble_eq_true rfl) ⟨rfl, rfl⟩ ⟨Nat.zero_le _, Nat.zero_le _⟩ ?_
                    refine x_if_eq (t := 91) (q := 71) dX7_layAlike_68 rfl rfl (fun c_68 => ?_) (fun c_68 => ?_)
                    · skip
                      exact hend false _ hAL.symm
                    · skip
                      exact absurd (of_decide_eq_true (b2i_n0.mp c_68)) (by omega)
          · skip
            have ht0 : t = 0 := by omega
            subst ht0
            refine x_ic (q := 31) dX7_layAlike_30 rfl rfl ?_
            refine x_goto (t := 35) dX7_layAlike_31 rfl ?_
            refine x_is5 (q := 37) dX7_layAlike_35 rfl rfl ?_
            refine x_ic (q := 38) dX7_layAlike_37 rfl rfl ?_
            refine x_is6 (q := 40) dX7_layAlike_38 rfl rfl ?_
            refine x_il (q := 42) dX7_layAlike_40 rfl rfl ?_
            refine x_al_n (q := 43) dX7_layAlike_42 rfl rfl ?_
            refine x_VI (q := 46) (ci := 7) dX7_layAlike_43 rfl kX7_layAlike_78 (m_words hs hr hmu hv) rfl rfl (hs _ _ rfl) (by decide) rfl (Nat.le_of_ble_eq_true rfl) ⟨rfl, rfl⟩ ⟨Nat.zero_le _, Nat.zero_le _⟩ ?_
            rw [← hmq]
            refine x_ic_ge (t := 91) (q := 49) dX7_layAlike_46 rfl rfl (fun c_46 => ?_) (fun c_46 => ?_)
            · skip
              exact hend true _ rfl
            · skip
              refine x_il (q := 51) dX7_layAlike_49 rfl rfl ?_
              refine x_if_ne (t := 91) (q := 54) dX7_layAlike_51 rfl rfl (fun c_51 => ?_) (fun c_51 => ?_)
              · skip
                exact hend true _ rfl
              · skip
                exact absurd c_51 (by decide)
set_option maxHeartbeats 4000000 in
set_option maxRecDepth 100000 in
theorem m_isWide (hs : ExtM sh) (hr : RokM rf) (hm : CM v c) (hv : Vld c) (hQ : FQ v c) {m t : Nat} (hmq : (m : Int) = 2 ^ c.2.2.2.2.toNat) (hA : RowA v c m t) (ht : t < 4) : Cv g mX7_isWide [aR 70, aI (t : Int)] (sh, rf, v) (retI (b2i (!dbt (tT c) (eT c) (muK (tT c) (eT c) (Gd c) (nS c) t) (nS c))) (sh, rf, v)) := by
  have hS := nS_rng hv
  have hd := nd_rng hv
  have hq := pw16 hv.2.2.2.1 hv.2.2.2.2
  obtain ⟨hvB, hp1, hp2, hq1, hq2⟩ := id hv
  obtain ⟨f1, f2, f3, f4⟩ := id hQ
  have hDB : ∀ a b w, (dB (tT c) (eT c) (muK (tT c) (eT c) (Gd c) (nS c) t)) a b w = (GA c (AL c m t) a b w && !decide (tT c a w = tT c b w)) := fun a b w => by unfold dB; rw [GO_AL hv hmq]
  have hpad : ∀ a b, anyN ((dB (tT c) (eT c) (muK (tT c) (eT c) (Gd c) (nS c) t)) a b) 16 = anyN ((dB (tT c) (eT c) (muK (tT c) (eT c) (Gd c) (nS c) t)) a b) m := fun a b => anyN_pad (fun w hw => by rw [hDB, GA_f hv (by omega)]; rfl) (by omega)
  refine x_entry (ls := [some (aR 70), some (aI (t : Int)), none, none, none]) rfl rfl (Nat.le_of_ble_eq_true rfl) ?_
  refine x_ic (q := 1) dX7_isWide_0 rfl rfl ?_
  refine x_is2 (q := 2) dX7_isWide_1 rfl rfl ?_
  refine x_up (S := fun a => anyN (fun a => anyN (fun b => anyN ((dB (tT c) (eT c) (muK (tT c) (eT c) (Gd c) (nS c) t)) a b) 16) a) a = false → ∀ o3 o4 : Option AV, Wv g mX7_isWide 0 0 2 [some (aR 70), some (aI (t : Int)), some (aI ((a : Int))), o3, o4] [] (sh, rf, v) (retI (b2i (!dbt (tT c) (eT c) (muK (tT c) (eT c) (Gd c) (nS c) t) (nS c))) (sh, rf, v))) (nS c) ?_ ?_ 0 (Nat.zero_le _) rfl none none
  · intro hz o3 o4
    refine x_il_n (q := 3) dX7_isWide_2 rfl rfl ?_
    refine x_al_n (q := 4) dX7_isWide_3 rfl rfl ?_
    refine x_VI (q := 7) (ci := 7) dX7_isWide_4 rfl kX7_isWide_82 (m_states hs hr hm hv) rfl rfl (hs _ _ rfl) (by decide) rfl (Nat.le_of_ble_eq_true rfl) ⟨rfl, rfl⟩ ⟨Nat.zero_le _, Nat.zero_le _⟩ ?_
    refine x_ic_ge (t := 78) (q := 10) dX7_isWide_7 rfl rfl (fun c_7 => ?_) (fun c_7 => ?_)
    · skip
      refine x_ic (q := 79) dX7_isWide_78 rfl rfl ?_
      exact x_zret dX7_isWide_79 rfl (by first | exact .inl rfl | exact .inr rfl | exact b2i_01 _) rfl (Nat.zero_le _) (retI_mk (by unfold dbt; rw [hz]; rfl))
    · skip
      exact absurd (Int.le_refl _) c_7
  · intro a ha iha hza o3 o4
    refine x_il_n (q := 3) dX7_isWide_2 rfl rfl ?_
    refine x_al_n (q := 4) dX7_isWide_3 rfl rfl ?_
    refine x_VI (q := 7) (ci := 7) dX7_isWide_4 rfl kX7_isWide_82 (m_states hs hr hm hv) rfl rfl (hs _ _ rfl) (by decide) rfl (Nat.le_of_ble_eq_true rfl) ⟨rfl, rfl⟩ ⟨Nat.zero_le _, Nat.zero_le _⟩ ?_
    refine x_ic_ge (t := 78) (q := 10) dX7_isWide_7 rfl rfl (fun c_7 => ?_) (fun c_7 => ?_)
    · skip
      exact absurd c_7 (by omega)
    · skip
      refine x_ic (q := 11) dX7_isWide_10 rfl rfl ?_
      refine x_is3 (q := 12) dX7_isWide_11 rfl rfl ?_
      refine x_up (S := fun b => anyN (fun b => anyN ((dB (tT c) (eT c) (muK (tT c) (eT c) (Gd c) (nS c) t)) a b) 16) b = false → ∀ o4 : Option AV, Wv g mX7_isWide 0 0 12 [some (aR 70), some (aI (t : Int)), some (aI ((a : Int))), some (aI (b : Int)), o4] [] (sh, rf, v) (retI (b2i (!dbt (tT c) (eT c) (muK (tT c) (eT c) (Gd c) (nS c) t) (nS c))) (sh, rf, v))) a ?_ ?_ 0 (Nat.zero_le _) rfl o4
      · intro hz o4
        refine x_il_n (q := 13) dX7_isWide_12 rfl rfl ?_
        refine x_il_n (q := 14) dX7_isWide_13 rfl rfl ?_
        refine x_ic_ge (t := 72) (q := 17) dX7_isWide_14 rfl rfl (fun c_14 => ?_) (fun c_14 => ?_)
        · skip
          refine x_ii2 (q := 75) dX7_isWide_72 rfl rfl ⟨by omega, by omega⟩ ?_
          refine x_goto (t := 2) dX7_isWide_75 rfl ?_
          exact iha (anyN_f hz hza) _ _
        · skip
          exact absurd (Int.le_refl _) c_14
      · intro b hb ihb hzb o4
        refine x_il_n (q := 13) dX7_isWide_12 rfl rfl ?_
        refine x_il_n (q := 14) dX7_isWide_13 rfl rfl ?_
        refine x_ic_ge (t := 72) (q := 17) dX7_isWide_14 rfl rfl (fun c_14 => ?_) (fun c_14 => ?_)
        · skip
          exact absurd c_14 (by omega)
        · skip
          refine x_ic (q := 18) dX7_isWide_17 rfl rfl ?_
          refine x_is4 (q := 20) dX7_isWide_18 rfl rfl ?_
          refine x_up (S := fun w => anyN ((dB (tT c) (eT c) (muK (tT c) (eT c) (Gd c) (nS c) t)) a b) w = false → Wv g mX7_isWide 0 0 20 [some (aR 70), some (aI (t : Int)), some (aI ((a : Int))), some (aI (b : Int)), some (aI (w : Int))] [] (sh, rf, v) (retI (b2i (!dbt (tT c) (eT c) (muK (tT c) (eT c) (Gd c) (nS c) t) (nS c))) (sh, rf, v))) m ?_ ?_ 0 (Nat.zero_le _) rfl
          · intro hz
            refine x_il (q := 22) dX7_isWide_20 rfl rfl ?_
            refine x_al_n (q := 23) dX7_isWide_22 rfl rfl ?_
            refine x_VI (q := 26) (ci := 7) dX7_isWide_23 rfl kX7_isWide_78 (m_words hs hr hm hv) rfl rfl (hs _ _ rfl) (by decide) rfl (Nat.le_of_ble_eq_true rfl) ⟨rfl, rfl⟩ ⟨Nat.zero_le _, Nat.zero_le _⟩ ?_
            rw [← hmq]
            refine x_ic_ge (t := 66) (q := 29) dX7_isWide_26 rfl rfl (fun c_26 => ?_) (fun c_26 => ?_)
            · skip
              refine x_ii3 (q := 69) dX7_isWide_66 rfl rfl ⟨by omega, by omega⟩ ?_
              refine x_goto (t := 12) dX7_isWide_69 rfl ?_
              exact ihb (anyN_f (by rw [hpad]; exact hz) hzb) _
            · skip
              exact absurd (Int.le_refl _) c_26
          · intro w hwm ihw hzw
            refine x_il (q := 22) dX7_isWide_20 rfl rfl ?_
            refine x_al_n (q := 23) dX7_isWide_22 rfl rfl ?_
            refine x_VI (q := 26) (ci := 7) dX7_isWide_23 rfl kX7_isWide_78 (m_words hs hr hm hv) rfl rfl (hs _ _ rfl) (by decide) rfl (Nat.le_of_ble_eq_true rfl) ⟨rfl, rfl⟩ ⟨Nat.zero_le _, Nat.zero_le _⟩ ?_
            rw [← hmq]
            refine x_ic_ge (t := 66) (q := 29) dX7_isWide_26 rfl rfl (fun c_26 => ?_) (fun c_26 => ?_)
            · skip
              exact absurd c_26 (by omega)
            · skip
              refine x_al_n (q := 30) dX7_isWide_29 rfl rfl ?_
              refine x_il_n (q := 31) dX7_isWide_30 rfl rfl ?_
              refine x_il (q := 33) dX7_isWide_31 rfl rfl ?_
              refine x_VI (q := 36) (ci := 7) dX7_isWide_33 rfl kX7_isWide_149 (m_tag hs hr hm hv (s := a) f2 (by omega) ha) rfl rfl (hs _ _ rfl) (by decide) rfl (Nat.le_of_ble_eq_true rfl) ⟨rfl, rfl⟩ ⟨Nat.zero_le _, Nat.zero_le _⟩ ?_
              rw [Ex_n (by omega) (by omega)]
              refine x_al_n (q := 37) dX7_isWide_36 rfl rfl ?_
              refine x_il_n (q := 38) dX7_isWide_37 rfl rfl ?_
              refine x_il (q := 40) dX7_isWide_38 rfl rfl ?_
              refine x_VI (q := 43) (ci := 7) dX7_isWide_40 rfl kX7_isWide_149 (m_tag hs hr hm hv (s := b) f2 (by omega) (by omega)) rfl rfl (hs _ _ rfl) (by decide) rfl (Nat.le_of_ble_eq_true rfl) ⟨rfl, rfl⟩ ⟨Nat.zero_le _, Nat.zero_le _⟩ ?_
              rw [Ex_n (by omega) (by omega)]
              refine x_ic_eq (t := 60) (q := 46) dX7_isWide_43 rfl rfl (fun c_43 => ?_) (fun c_43 => ?_)
              · skip
                have hdw : (dB (tT c) (eT c) (muK (tT c) (eT c) (Gd c) (nS c) t)) a b w = false := by rw [hDB, decide_eq_true c_43]; simp
                refine x_ii4 (q := 63) dX7_isWide_60 rfl rfl ⟨by omega, by omega⟩ ?_
                refine x_goto (t := 20) dX7_isWide_63 rfl ?_
                exact ihw (anyN_f hdw hzw)
              · skip
                refine x_al_n (q := 47) dX7_isWide_46 rfl rfl ?_
                refine x_il_n (q := 48) dX7_isWide_47 rfl rfl ?_
                refine x_il_n (q := 49) dX7_isWide_48 rfl rfl ?_
                refine x_il (q := 51) dX7_isWide_49 rfl rfl ?_
                refine x_il_n (q := 52) dX7_isWide_51 rfl rfl ?_
                refine x_VI (q := 55) (ci := 7) dX7_isWide_52 rfl kX7_isWide_166 (m_goOn hs hr hm hv hQ (a := a) (b := b) (st := t) hmq hA ht ha (by omega) hwm) rfl rfl (hs _ _ rfl) (by decide) rfl (Nat.le_of_ble_eq_true rfl) ⟨rfl, rfl⟩ ⟨Nat.zero_le _, Nat.zero_le _⟩ ?_
                refine x_if_eq (t := 60) (q := 58) dX7_isWide_55 rfl rfl (fun c_55 => ?_) (fun c_55 => ?_)
                · skip
                  have hdw : (dB (tT c) (eT c) (muK (tT c) (eT c) (Gd c) (nS c) t)) a b w = false := by rw [hDB, b2i_0.mp c_55]; rfl
                  refine x_ii4 (q := 63) dX7_isWide_60 rfl rfl ⟨by omega, by omega⟩ ?_
                  refine x_goto (t := 20) dX7_isWide_63 rfl ?_
                  exact ihw (anyN_f hdw hzw)
                · skip
                  have hdw : (dB (tT c) (eT c) (muK (tT c) (eT c) (Gd c) (nS c) t)) a b w = true := by rw [hDB, b2i_n0.mp c_55, decide_eq_false c_43]; rfl
                  have hdt : dbt (tT c) (eT c) (muK (tT c) (eT c) (Gd c) (nS c) t) (nS c) = true := by
                    have d1 : anyN ((dB (tT c) (eT c) (muK (tT c) (eT c) (Gd c) (nS c) t)) a b) 16 = true := anyN_t (i := w) hdw (by omega)
                    have d2 : anyN (fun b => anyN ((dB (tT c) (eT c) (muK (tT c) (eT c) (Gd c) (nS c) t)) a b) 16) a = true := anyN_t (f := fun b => anyN ((dB (tT c) (eT c) (muK (tT c) (eT c) (Gd c) (nS c) t)) a b) 16) (i := b) d1 hb
                    exact anyN_t (f := fun a => anyN (fun b => anyN ((dB (tT c) (eT c) (muK (tT c) (eT c) (Gd c) (nS c) t)) a b) 16) a) (i := a) d2 ha
                  refine x_ic (q := 59) dX7_isWide_58 rfl rfl ?_
                  exact x_zret dX7_isWide_59 rfl (by first | exact .inl rfl | exact .inr rfl | exact b2i_01 _) rfl (Nat.zero_le _) (retI_mk (by rw [hdt]; rfl))
set_option maxHeartbeats 4000000 in
set_option maxRecDepth 100000 in
theorem m_window (hs : ExtM sh) (hr : RokM rf) (hm : CM v c) (hv : Vld c) (hQ : FQ v c) : Cv g mX7_window [aR 70] (sh, rf, v) (fun r h1 => r = some (aI (Wn c)) ∧ ∃ u, h1 = (sh, rf, u) ∧ ∀ d, d ≠ 84 → u d = v d) := by
  have hS := nS_rng hv
  have hd := nd_rng hv
  have hq := pw16 hv.2.2.2.1 hv.2.2.2.2
  obtain ⟨hvB, hp1, hp2, hq1, hq2⟩ := id hv
  obtain ⟨m, hmq⟩ : ∃ m : Nat, (m : Int) = 2 ^ c.2.2.2.2.toNat := ⟨2 ^ c.2.2.2.2.toNat, by simp⟩
  obtain ⟨f1, f2, f3, f4⟩ := id hQ
  refine x_entry (ls := [some (aR 70), none]) rfl rfl (Nat.le_of_ble_eq_true rfl) ?_
  refine x_al_n (q := 1) dX7_window_0 rfl rfl ?_
  refine x_getIe (q := 4) (z := mk (Gd c) (nS c)) dX7_window_1 rfl fX7_92 (hs _ _ rfl) rfl (f3) ?_
  refine x_if_ne (t := 10) (q := 7) dX7_window_4 rfl rfl (fun c_4 => ?_) (fun c_4 => ?_)
  · skip
    refine x_al_n (q := 11) dX7_window_10 rfl rfl ?_
    refine x_V (q := 14) (ci := 7) dX7_window_11 rfl kX7_window_170 (m_layAlike hs hr hm hv hQ hmq) rfl rfl (hs _ _ rfl) (by decide) rfl (Nat.le_of_ble_eq_true rfl) ⟨rfl, rfl⟩ ⟨Nat.zero_le _, Nat.zero_le _⟩ (fun r1 h1 hp => ?_)
    obtain ⟨rfl, u, rfl, hu1, hu2⟩ := hp
    have hmu : CM u c := hm.cong (hu2 71 (by decide))
    have hQu : FQ u c := hQ.cong (hu2 77 (by decide)) (hu2 78 (by decide)) (by rw [hu2 70 (by decide)]) (by rw [hu2 70 (by decide)])
    refine x_ic (q := 15) dX7_window_14 rfl rfl ?_
    refine x_is1 (q := 16) dX7_window_15 rfl rfl ?_
    have hWn : Wn c = fi (fun m => !dbt (tT c) (eT c) (muK (tT c) (eT c) (Gd c) (nS c) m) (nS c)) 0 4 := by unfold Wn wnC; rw [if_neg c_4]
    refine x_up (S := fun t => ∀ k, t + k = 4 → Wn c = fi (fun m => !dbt (tT c) (eT c) (muK (tT c) (eT c) (Gd c) (nS c) m) (nS c)) t k → Wv g mX7_window 0 0 16 [some (aR 70), some (aI (t : Int))] [] (sh, rf, u) (fun r h1 => r = some (aI (Wn c)) ∧ ∃ u, h1 = (sh, rf, u) ∧ ∀ d, d ≠ 84 → u d = v d)) 4 ?_ ?_ 0 (by decide) 4 rfl hWn
    · intro k hk he
      obtain rfl : k = 0 := by omega
      refine x_il_n (q := 17) dX7_window_16 rfl rfl ?_
      refine x_ic (q := 18) dX7_window_17 rfl rfl ?_
      refine x_ic_ge (t := 37) (q := 21) dX7_window_18 rfl rfl (fun c_18 => ?_) (fun c_18 => ?_)
      · skip
        refine x_bi (q := 39) dX7_window_37 rfl rfl ?_
        exact x_iret dX7_window_39 rfl rfl (Nat.zero_le _) ⟨by rw [he]; rfl, u, rfl, hu2⟩
      · skip
        exact absurd (by decide) c_18
    · intro t ht ih k hk he
      obtain ⟨k, rfl⟩ : ∃ j, k = j + 1 := ⟨k - 1, by omega⟩
      refine x_il_n (q := 17) dX7_window_16 rfl rfl ?_
      refine x_ic (q := 18) dX7_window_17 rfl rfl ?_
      refine x_ic_ge (t := 37) (q := 21) dX7_window_18 rfl rfl (fun c_18 => ?_) (fun c_18 => ?_)
      · skip
        exact absurd c_18 (by omega)
      · skip
        refine x_al_n (q := 22) dX7_window_21 rfl rfl ?_
        refine x_il_n (q := 23) dX7_window_22 rfl rfl ?_
        refine x_VI (q := 26) (ci := 7) dX7_window_23 rfl kX7_window_173 (m_isWide hs hr hmu hv hQu (t := t) hmq (hu1 t ht) ht) rfl rfl (hs _ _ rfl) (by decide) rfl (Nat.le_of_ble_eq_true rfl) ⟨rfl, rfl⟩ ⟨Nat.zero_le _, Nat.zero_le _⟩ ?_
        refine x_if_eq (t := 31) (q := 29) dX7_window_26 rfl rfl (fun c_26 => ?_) (fun c_26 => ?_)
        · skip
          have ih := ih k (by omega) (by rw [he, fi_f (b2i_0.mp c_26)])
          refine x_ii1 (q := 34) dX7_window_31 rfl rfl ⟨by omega, by omega⟩ ?_
          refine x_goto (t := 16) dX7_window_34 rfl ?_
          exact ih
        · skip
          have he2 : Wn c = (t : Int) := by rw [he, fi_t (b2i_n0.mp c_26)]
          refine x_il_n (q := 30) dX7_window_29 rfl rfl ?_
          exact x_iret dX7_window_30 rfl rfl (Nat.zero_le _) ⟨by rw [he2], u, rfl, hu2⟩
  · skip
    refine x_bi (q := 9) dX7_window_7 rfl rfl ?_
    exact x_iret dX7_window_9 rfl rfl (Nat.zero_le _) ⟨by unfold Wn wnC; rw [if_pos c_4], v, rfl, fun _ _ => rfl⟩
set_option maxHeartbeats 4000000 in
set_option maxRecDepth 100000 in
theorem m_byWindow (hs : ExtM sh) (hr : RokM rf) (hR : RM S v) (hV : SV S) (hQ : FQ v S.1.1) {i : Nat} (hi : i < S.1.2.1) : Cv g mX7_byWindow [aR 70, aI (i : Int)] (sh, rf, v) (fun r h1 => r = some (aI (rbW S.1 i)) ∧ ∃ u, h1 = (sh, rf, u) ∧ ∀ d, d ≠ 84 → u d = v d) := by
  have hm := hR.cm
  have hv := hV.1.1
  have hS := nS_rng hv
  have hd := nd_rng hv
  have hq := pw16 hv.2.2.2.1 hv.2.2.2.2
  have hn24 := hV.1.2.1
  obtain ⟨hvB, hp1, hp2, hq1, hq2⟩ := id hv
  obtain ⟨m, hmq⟩ : ∃ m : Nat, (m : Int) = 2 ^ S.1.1.2.2.2.2.toNat := ⟨2 ^ S.1.1.2.2.2.2.toNat, by simp⟩
  have hnd : nd S.1.1 = 2 ^ S.1.1.2.2.2.1.toNat := rfl
  obtain ⟨a1, a2, a3, ⟨b1, b2, b3, b4⟩, ⟨c1, c2⟩, ⟨d1, d2⟩⟩ := id hR
  obtain ⟨f1, f2, f3, f4⟩ := id hQ
  have hmk := mk_rng (Gd S.1.1) (nS S.1.1)
  have hW := Wn_rng S.1.1
  refine x_entry (ls := [some (aR 70), some (aI (i : Int)), none, none, none, none, none]) rfl rfl (Nat.le_of_ble_eq_true rfl) ?_
  refine x_al_n (q := 1) dX7_byWindow_0 rfl rfl ?_
  refine x_V (q := 4) (ci := 7) dX7_byWindow_1 rfl kX7_byWindow_176 (m_window hs hr hm hv hQ) rfl rfl (hs _ _ rfl) (by decide) rfl (Nat.le_of_ble_eq_true rfl) ⟨rfl, rfl⟩ ⟨Nat.zero_le _, Nat.zero_le _⟩ (fun r1 h1 hp => ?_)
  obtain ⟨rfl, u, rfl, hu2⟩ := hp
  have hmu : CM u S.1.1 := hm.cong (hu2 71 (by decide))
  obtain ⟨q1, q2, q3, q4⟩ : FQ u S.1.1 := hQ.cong (hu2 77 (by decide)) (hu2 78 (by decide)) (by rw [hu2 70 (by decide)]) (by rw [hu2 70 (by decide)])
  have e1 : MH u 71 0 S.1 := a1.cong (hu2 71 (by decide))
  refine x_is2 (q := 5) dX7_byWindow_4 rfl rfl ?_
  refine x_il_n (q := 6) dX7_byWindow_5 rfl rfl ?_
  refine x_bi (q := 8) dX7_byWindow_6 rfl rfl ?_
  refine x_ic_eq (t := 23) (q := 11) dX7_byWindow_8 rfl rfl (fun c_8 => ?_) (fun c_8 => ?_)
  · skip
    refine x_bi (q := 25) dX7_byWindow_23 rfl rfl ?_
    exact x_iret dX7_byWindow_25 rfl rfl (Nat.zero_le _) ⟨by rw [rbW, if_pos (by omega)], u, rfl, hu2⟩
  · skip
    refine x_il_n (q := 12) dX7_byWindow_11 rfl rfl ?_
    refine x_il_n (q := 13) dX7_byWindow_12 rfl rfl ?_
    refine x_add (q := 14) dX7_byWindow_13 rfl ⟨by omega, by omega⟩ ?_
    refine x_al_n (q := 15) dX7_byWindow_14 rfl rfl ?_
    refine x_getR (q := 18) (o := some (71)) dX7_byWindow_15 rfl fX7_7 (hs _ _ rfl) rfl (hr _ _ rfl) ?_
    refine x_ic (q := 19) dX7_byWindow_18 rfl rfl ?_
    refine x_ialde (q := 20) (z := (S.1.2.1 : Int)) dX7_byWindow_19 rfl (hs _ _ rfl) (by omega) (by omega) ((by exact e1.2.1)) ?_
    refine x_ic_lt (t := 26) (q := 23) dX7_byWindow_20 rfl rfl (fun c_20 => ?_) (fun c_20 => ?_)
    · skip
      refine x_bi (q := 28) dX7_byWindow_26 rfl rfl ?_
      refine x_is3 (q := 29) dX7_byWindow_28 rfl rfl ?_
      refine x_ic (q := 30) dX7_byWindow_29 rfl rfl ?_
      refine x_is4 (q := 32) dX7_byWindow_30 rfl rfl ?_
      obtain ⟨t, htt⟩ := Int.eq_ofNat_of_zero_le (show 0 ≤ Wn S.1.1 by omega)
      have ht3 : t ≤ 3 := by omega
      have hdb : dbt (tT S.1.1) (eT S.1.1) (muK (tT S.1.1) (eT S.1.1) (Gd S.1.1) (nS S.1.1) t) (nS S.1.1) = false := by
        have h9 := htt
        unfold Wn wnC at h9
        split at h9
        · omega
        · rcases fi_rng (f := fun m => !dbt (tT S.1.1) (eT S.1.1) (muK (tT S.1.1) (eT S.1.1) (Gd S.1.1) (nS S.1.1) m) (nS S.1.1)) 4 0 with h | ⟨j, j1, j2, j3, j4⟩
          · omega
          · have : j = t := by omega
            subst this
            simpa using j3
      have hrb : rbW S.1 i = if rwS S.1 i = -9 then -9 else Ex (tT S.1.1) (rwS S.1 i) (S.1.2.2.1 i) := by unfold rbW; rw [if_neg (by omega)]
      have hrw : rwS S.1 i = fi (fun s => !decide (FW (tT S.1.1) (eT S.1.1) S.1.2.2.1 (t + 1) i ((s : Int)) = -9)) 0 (nS S.1.1) := by unfold rwS; rw [htt, Int.toNat_natCast]
      have hwi := hV.1.w16 hi
      rw [htt]
      refine x_up (S := fun s => ∀ x : Int, ((∃ s0 : Nat, s0 < s ∧ ¬ FW (tT S.1.1) (eT S.1.1) S.1.2.2.1 (t + 1) i ((s0 : Int)) = -9 ∧ x = Ex (tT S.1.1) (s0 : Int) (S.1.2.2.1 i)) ∨ ((∀ s0 : Nat, s0 < s → FW (tT S.1.1) (eT S.1.1) S.1.2.2.1 (t + 1) i ((s0 : Int)) = -9) ∧ x = -9)) → ∀ o5 o6 : Option AV, Wv g mX7_byWindow 0 0 32 [some (aR 70), some (aI (i : Int)), some (aI (t : Int)), some (aI (x)), some (aI ((s : Int))), o5, o6] [] (sh, rf, u) (fun r h1 => r = some (aI (rbW S.1 i)) ∧ ∃ u, h1 = (sh, rf, u) ∧ ∀ d, d ≠ 84 → u d = v d)) (nS S.1.1) ?_ ?_ 0 (Nat.zero_le _) (-9) (.inr ⟨fun s0 h => by omega, rfl⟩) none none
      · intro x hx o5 o6
        have hx : rbW S.1 i = x := by
          rw [hrb, hrw]
          rcases hx with ⟨s0, y1, y2, y3⟩ | ⟨y1, y2⟩
          · obtain ⟨m2, g1, g2, g3, g4⟩ := fi_ex (f := fun s => !decide (FW (tT S.1.1) (eT S.1.1) S.1.2.2.1 (t + 1) i ((s : Int)) = -9)) (nS S.1.1) 0 s0 (by omega) (by omega) (by simp [y2])
            rw [g4, if_neg (by omega), y3]
            exact win_same hv hdb (by omega) y1 (by simpa using g3) y2
          · rcases fi_rng (f := fun s => !decide (FW (tT S.1.1) (eT S.1.1) S.1.2.2.1 (t + 1) i ((s : Int)) = -9)) (nS S.1.1) 0 with h | ⟨j, j1, j2, j3, j4⟩
            · rw [h, if_pos rfl, y2]
            · exact absurd (y1 j (by omega)) (by simpa using j3)
        refine x_il (q := 34) dX7_byWindow_32 rfl rfl ?_
        refine x_al_n (q := 35) dX7_byWindow_34 rfl rfl ?_
        refine x_VI (q := 38) (ci := 7) dX7_byWindow_35 rfl kX7_byWindow_82 (m_states hs hr hmu hv) rfl rfl (hs _ _ rfl) (by decide) rfl (Nat.le_of_ble_eq_true rfl) ⟨rfl, rfl⟩ ⟨Nat.zero_le _, Nat.zero_le _⟩ ?_
        refine x_ic_ge (t := 146) (q := 41) dX7_byWindow_38 rfl rfl (fun c_38 => ?_) (fun c_38 => ?_)
        · skip
          refine x_il_n (q := 147) dX7_byWindow_146 rfl rfl ?_
          exact x_iret dX7_byWindow_147 rfl rfl (Nat.zero_le _) ⟨by rw [hx], u, rfl, hu2⟩
        · skip
          exact absurd (Int.le_refl _) c_38
      · intro s hsn ih x hx o5 o6
        have hend : ∀ o6 : Option AV, Wv g mX7_byWindow 0 0 113 [some (aR 70), some (aI (i : Int)), some (aI (t : Int)), some (aI (x)), some (aI ((s : Int))), some (aI (FW (tT S.1.1) (eT S.1.1) S.1.2.2.1 (t + 1) i ((s : Int)))), o6] [] (sh, rf, u) (fun r h1 => r = some (aI (rbW S.1 i)) ∧ ∃ u, h1 = (sh, rf, u) ∧ ∀ d, d ≠ 84 → u d = v d) := by
          intro o6
          refine x_il (q := 115) dX7_byWindow_113 rfl rfl ?_
          refine x_bi (q := 117) dX7_byWindow_115 rfl rfl ?_
          refine x_ic_ne (t := 124) (q := 120) dX7_byWindow_117 rfl rfl (fun c_117 => ?_) (fun c_117 => ?_)
          · skip
            have ih := ih (Ex (tT S.1.1) (s : Int) (S.1.2.2.1 i)) (.inl ⟨s, by omega, c_117, rfl⟩)
            refine x_al_n (q := 125) dX7_byWindow_124 rfl rfl ?_
            refine x_il (q := 127) dX7_byWindow_125 rfl rfl ?_
            refine x_al_n (q := 128) dX7_byWindow_127 rfl rfl ?_
            refine x_getR (q := 131) (o := some (71)) dX7_byWindow_128 rfl fX7_7 (hs _ _ rfl) rfl (hr _ _ rfl) ?_
            refine x_bi (q := 133) dX7_byWindow_131 rfl rfl ?_
            refine x_il_n (q := 134) dX7_byWindow_133 rfl rfl ?_
            refine x_add (q := 135) dX7_byWindow_134 rfl ⟨by omega, by omega⟩ ?_
            refine x_ialde (q := 136) (z := S.1.2.2.1 i) dX7_byWindow_135 rfl (hs _ _ rfl) (by omega) (by omega) (by rw [show (31 + (i : Int)).toNat = 0 + 31 + i by omega]; exact (e1.2.2.2 i (by omega)).2.1) ?_
            refine x_VI (q := 139) (ci := 7) dX7_byWindow_136 rfl kX7_byWindow_149 (m_tag hs hr hmu hv (s := s) q2 hwi.1 hsn) rfl rfl (hs _ _ rfl) (by decide) rfl (Nat.le_of_ble_eq_true rfl) ⟨rfl, rfl⟩ ⟨Nat.zero_le _, Nat.zero_le _⟩ ?_
            refine x_is3 (q := 140) dX7_byWindow_139 rfl rfl ?_
            refine x_ii4 (q := 143) dX7_byWindow_140 rfl rfl ⟨by omega, by omega⟩ ?_
            refine x_goto (t := 32) dX7_byWindow_143 rfl ?_
            exact ih _ _
          · skip
            have ih := ih x (by
              rcases hx with ⟨s0, y1, y2, y3⟩ | ⟨y1, y2⟩
              · exact .inl ⟨s0, by omega, y2, y3⟩
              · refine .inr ⟨fun s0 h => ?_, y2⟩
                by_cases he : s0 = s
                · rw [he]; exact c_117
                · exact y1 s0 (by omega))
            refine x_il_n (q := 121) dX7_byWindow_120 rfl rfl ?_
            refine x_goto (t := 139) dX7_byWindow_121 rfl ?_
            refine x_is3 (q := 140) dX7_byWindow_139 rfl rfl ?_
            refine x_ii4 (q := 143) dX7_byWindow_140 rfl rfl ⟨by omega, by omega⟩ ?_
            refine x_goto (t := 32) dX7_byWindow_143 rfl ?_
            exact ih _ _
        have key : ∀ (k j : Nat) (x2 : Int), j + k = i + t + 1 → (x2 = -9 ∨ (0 ≤ x2 ∧ x2 < (nS S.1.1 : Int))) → (if x2 = -9 then -9 else FW (tT S.1.1) (eT S.1.1) S.1.2.2.1 k j x2) = FW (tT S.1.1) (eT S.1.1) S.1.2.2.1 (t + 1) i ((s : Int)) → Wv g mX7_byWindow 0 0 48 [some (aR 70), some (aI (i : Int)), some (aI (t : Int)), some (aI (x)), some (aI ((s : Int))), some (aI x2), some (aI (j : Int))] [] (sh, rf, u) (fun r h1 => r = some (aI (rbW S.1 i)) ∧ ∃ u, h1 = (sh, rf, u) ∧ ∀ d, d ≠ 84 → u d = v d) := by
          intro k
          induction k with
          | zero =>
            intro j x2 hj hx2 he
            have he : x2 = FW (tT S.1.1) (eT S.1.1) S.1.2.2.1 (t + 1) i ((s : Int)) := by rw [← he]; split; assumption; rfl
            subst he
            refine x_il (q := 50) dX7_byWindow_48 rfl rfl ?_
            refine x_il_n (q := 51) dX7_byWindow_50 rfl rfl ?_
            refine x_il_n (q := 52) dX7_byWindow_51 rfl rfl ?_
            refine x_add (q := 53) dX7_byWindow_52 rfl ⟨by omega, by omega⟩ ?_
            refine x_ic_gt (t := 113) (q := 56) dX7_byWindow_53 rfl rfl (fun c_53 => ?_) (fun c_53 => ?_)
            · skip
              exact hend _
            · skip
              exact absurd (by omega) c_53
          | succ k ihk =>
            intro j x2 hj hx2 he
            have hwj := hV.1.w16 (i := j) (by omega)
            refine x_il (q := 50) dX7_byWindow_48 rfl rfl ?_
            refine x_il_n (q := 51) dX7_byWindow_50 rfl rfl ?_
            refine x_il_n (q := 52) dX7_byWindow_51 rfl rfl ?_
            refine x_add (q := 53) dX7_byWindow_52 rfl ⟨by omega, by omega⟩ ?_
            refine x_ic_gt (t := 113) (q := 56) dX7_byWindow_53 rfl rfl (fun c_53 => ?_) (fun c_53 => ?_)
            · skip
              exact absurd c_53 (by omega)
            · skip
              refine x_il (q := 58) dX7_byWindow_56 rfl rfl ?_
              refine x_bi (q := 60) dX7_byWindow_58 rfl rfl ?_
              refine x_ic_eq (t := 113) (q := 63) dX7_byWindow_60 rfl rfl (fun c_60 => ?_) (fun c_60 => ?_)
              · skip
                rw [if_pos c_60] at he
                have hx9 : x2 = FW (tT S.1.1) (eT S.1.1) S.1.2.2.1 (t + 1) i ((s : Int)) := by omega
                rw [hx9]
                exact hend _
              · skip
                rw [if_neg c_60] at he
                obtain ⟨x2, rfl⟩ := Int.eq_ofNat_of_zero_le (show 0 ≤ x2 by omega)
                refine x_al_n (q := 64) dX7_byWindow_63 rfl rfl ?_
                refine x_il (q := 66) dX7_byWindow_64 rfl rfl ?_
                refine x_al_n (q := 67) dX7_byWindow_66 rfl rfl ?_
                refine x_getR (q := 70) (o := some (71)) dX7_byWindow_67 rfl fX7_7 (hs _ _ rfl) rfl (hr _ _ rfl) ?_
                refine x_bi (q := 72) dX7_byWindow_70 rfl rfl ?_
                refine x_il (q := 74) dX7_byWindow_72 rfl rfl ?_
                refine x_add (q := 75) dX7_byWindow_74 rfl ⟨by omega, by omega⟩ ?_
                refine x_ialde (q := 76) (z := S.1.2.2.1 j) dX7_byWindow_75 rfl (hs _ _ rfl) (by omega) (by omega) (by rw [show (31 + (j : Int)).toNat = 0 + 31 + j by omega]; exact (e1.2.2.2 j (by omega)).2.1) ?_
                refine x_VI (q := 79) (ci := 7) dX7_byWindow_76 rfl kX7_byWindow_149 (m_tag hs hr hmu hv (s := x2) q2 hwj.1 (by omega)) rfl rfl (hs _ _ rfl) (by decide) rfl (Nat.le_of_ble_eq_true rfl) ⟨rfl, rfl⟩ ⟨Nat.zero_le _, Nat.zero_le _⟩ ?_
                refine x_bi (q := 81) dX7_byWindow_79 rfl rfl ?_
                refine x_ic_ne (t := 89) (q := 84) dX7_byWindow_81 rfl rfl (fun c_81 => ?_) (fun c_81 => ?_)
                · skip
                  have hlx := Ex_lead hv c_81
                  have ihk := ihk (j + 1) (Ex (eT S.1.1) (x2 : Int) (S.1.2.2.1 j)) (by omega) (.inr ⟨hlx.1, hlx.2.1⟩) (by rw [if_neg (by omega), ← he]; show _ = (if _ then _ else _); rw [if_neg c_81])
                  refine x_al_n (q := 90) dX7_byWindow_89 rfl rfl ?_
                  refine x_il (q := 92) dX7_byWindow_90 rfl rfl ?_
                  refine x_al_n (q := 93) dX7_byWindow_92 rfl rfl ?_
                  refine x_getR (q := 96) (o := some (71)) dX7_byWindow_93 rfl fX7_7 (hs _ _ rfl) rfl (hr _ _ rfl) ?_
                  refine x_bi (q := 98) dX7_byWindow_96 rfl rfl ?_
                  refine x_il (q := 100) dX7_byWindow_98 rfl rfl ?_
                  refine x_add (q := 101) dX7_byWindow_100 rfl ⟨by omega, by omega⟩ ?_
                  refine x_ialde (q := 102) (z := S.1.2.2.1 j) dX7_byWindow_101 rfl (hs _ _ rfl) (by omega) (by omega) (by rw [show (31 + (j : Int)).toNat = 0 + 31 + j by omega]; exact (e1.2.2.2 j (by omega)).2.1) ?_
                  refine x_VI (q := 105) (ci := 7) dX7_byWindow_102 rfl kX7_byWindow_89 (m_lead hs hr hmu hv (s := x2) q1 hwj.1 (by omega)) rfl rfl (hs _ _ rfl) (by decide) rfl (Nat.le_of_ble_eq_true rfl) ⟨rfl, rfl⟩ ⟨Nat.zero_le _, Nat.zero_le _⟩ ?_
                  refine x_is5 (q := 107) dX7_byWindow_105 rfl rfl ?_
                  refine x_ii6 (q := 110) dX7_byWindow_107 rfl rfl ⟨by omega, by omega⟩ ?_
                  refine x_goto (t := 48) dX7_byWindow_110 rfl ?_
                  exact ihk
                · skip
                  have he2 : (-9 : Int) = FW (tT S.1.1) (eT S.1.1) S.1.2.2.1 (t + 1) i ((s : Int)) := by rw [← he]; show _ = (if _ then _ else _); rw [if_pos c_81]
                  have ihk := ihk (j + 1) (-9) (by omega) (.inl rfl) (by rw [if_pos rfl]; exact he2)
                  refine x_bi (q := 86) dX7_byWindow_84 rfl rfl ?_
                  refine x_goto (t := 105) dX7_byWindow_86 rfl ?_
                  refine x_is5 (q := 107) dX7_byWindow_105 rfl rfl ?_
                  refine x_ii6 (q := 110) dX7_byWindow_107 rfl rfl ⟨by omega, by omega⟩ ?_
                  refine x_goto (t := 48) dX7_byWindow_110 rfl ?_
                  exact ihk
        refine x_il (q := 34) dX7_byWindow_32 rfl rfl ?_
        refine x_al_n (q := 35) dX7_byWindow_34 rfl rfl ?_
        refine x_VI (q := 38) (ci := 7) dX7_byWindow_35 rfl kX7_byWindow_82 (m_states hs hr hmu hv) rfl rfl (hs _ _ rfl) (by decide) rfl (Nat.le_of_ble_eq_true rfl) ⟨rfl, rfl⟩ ⟨Nat.zero_le _, Nat.zero_le _⟩ ?_
        refine x_ic_ge (t := 146) (q := 41) dX7_byWindow_38 rfl rfl (fun c_38 => ?_) (fun c_38 => ?_)
        · skip
          exact absurd c_38 (by omega)
        · skip
          refine x_il (q := 43) dX7_byWindow_41 rfl rfl ?_
          refine x_is5 (q := 45) dX7_byWindow_43 rfl rfl ?_
          refine x_il_n (q := 46) dX7_byWindow_45 rfl rfl ?_
          refine x_is6 (q := 48) dX7_byWindow_46 rfl rfl ?_
          exact key (t + 1) i (s : Int) (by omega) (.inr ⟨by omega, by omega⟩) (by rw [if_neg (by omega)])
    · skip
      refine x_bi (q := 25) dX7_byWindow_23 rfl rfl ?_
      exact x_iret dX7_byWindow_25 rfl rfl (Nat.zero_le _) ⟨by rw [rbW, if_pos (by omega)], u, rfl, hu2⟩
set_option maxHeartbeats 4000000 in
set_option maxRecDepth 100000 in
theorem m_word (hs : ExtM sh) (hr : RokM rf) (hR : RM S v) (hV : SV S) {i k : Int} : Cv g mX7_word [aR 70, aI i, aI k] (sh, rf, v) (sP (a_word S i k) sh rf v) := by
  have hm := hR.cm
  have hv := hV.1.1
  have hS := nS_rng hv
  have hd := nd_rng hv
  have hq := pw16 hv.2.2.2.1 hv.2.2.2.2
  have hn24 := hV.1.2.1
  obtain ⟨hvB, hp1, hp2, hq1, hq2⟩ := id hv
  obtain ⟨m, hmq⟩ : ∃ m : Nat, (m : Int) = 2 ^ S.1.1.2.2.2.2.toNat := ⟨2 ^ S.1.1.2.2.2.2.toNat, by simp⟩
  have hnd : nd S.1.1 = 2 ^ S.1.1.2.2.2.1.toNat := rfl
  obtain ⟨a1, a2, a3, ⟨b1, b2, b3, b4⟩, ⟨c1, c2⟩, ⟨d1, d2⟩⟩ := id hR
  refine x_entry (ls := [some (aR 70), some (aI i), some (aI k)]) rfl rfl (Nat.le_of_ble_eq_true rfl) ?_
  refine x_il_n (q := 1) dX7_word_0 rfl rfl ?_
  refine x_i2l (q := 2) dX7_word_1 rfl ?_
  refine x_lc (q := 3) (z := 0) dX7_word_2 rfl rfl ?_
  refine x_al_n (q := 4) dX7_word_3 rfl rfl ?_
  refine x_getR (q := 7) (o := some (71)) dX7_word_4 rfl fX7_7 (hs _ _ rfl) rfl (hr _ _ rfl) ?_
  refine x_ic (q := 8) dX7_word_7 rfl rfl ?_
  refine x_ialde (q := 9) (z := (S.1.2.1 : Int)) dX7_word_8 rfl (hs _ _ rfl) (by omega) (by omega) ((by exact a1.2.1)) ?_
  refine x_ic (q := 10) dX7_word_9 rfl rfl ?_
  refine x_sub (q := 11) dX7_word_10 rfl ⟨by omega, by omega⟩ ?_
  refine x_i2l (q := 12) dX7_word_11 rfl ?_
  refine x_SI (q := 15) dX7_word_12 rfl kX7_word_70 (m_in) rfl rfl (Nat.le_of_ble_eq_true rfl) ⟨rfl, rfl⟩ ⟨Nat.zero_le _, Nat.zero_le _⟩ ?_
  refine x_if_eq (t := 30) (q := 18) dX7_word_15 rfl rfl (fun c_15 => ?_) (fun c_15 => ?_)
  · skip
    have e_15 := of_decide_eq_false (b2i_0.mp c_15)
    refine x_ic (q := 31) dX7_word_30 rfl rfl ?_
    first
    | exact x_iret dX7_word_31 rfl rfl (Nat.zero_le _) ⟨by rw [a_word, if_pos (by omega)], v, rfl, Sm.refl v⟩
    | exact x_iret dX7_word_31 rfl rfl (Nat.zero_le _) ⟨by rw [hA, if_pos (by omega)], u, rfl, hsm⟩
    | exact x_iret dX7_word_31 rfl rfl (Nat.zero_le _) ⟨by rw [hA, if_neg (by omega), if_pos (by omega)], u, rfl, hsm⟩
    | exact x_iret dX7_word_31 rfl rfl (Nat.zero_le _) ⟨by rw [hA, if_neg (by omega), if_neg (by omega), if_pos (by omega)], u, rfl, hsm⟩
    | exact x_iret dX7_word_31 rfl rfl (Nat.zero_le _) ⟨by rw [hA, if_neg (by omega), if_neg (by omega), if_neg (by omega)], w0, rfl, hsm2⟩
  · skip
    have e_15 := of_decide_eq_true (b2i_n0.mp c_15)
    refine x_il_n (q := 19) dX7_word_18 rfl rfl ?_
    refine x_i2l (q := 20) dX7_word_19 rfl ?_
    refine x_lc (q := 21) (z := 0) dX7_word_20 rfl rfl ?_
    refine x_ldc2 (q := 24) dX7_word_21 rfl q875 rfl ?_
    refine x_SI (q := 27) dX7_word_24 rfl kX7_word_70 (m_in) rfl rfl (Nat.le_of_ble_eq_true rfl) ⟨rfl, rfl⟩ ⟨Nat.zero_le _, Nat.zero_le _⟩ ?_
    refine x_if_ne (t := 32) (q := 30) dX7_word_27 rfl rfl (fun c_27 => ?_) (fun c_27 => ?_)
    · skip
      have e_27 := of_decide_eq_true (b2i_n0.mp c_27)
      refine x_al_n (q := 33) dX7_word_32 rfl rfl ?_
      refine x_V (q := 36) (ci := 7) dX7_word_33 rfl kX7_word_56 (m_finds hs hr hm hv) rfl rfl (hs _ _ rfl) (by decide) rfl (Nat.le_of_ble_eq_true rfl) ⟨rfl, rfl⟩ ⟨Nat.zero_le _, Nat.zero_le _⟩ (fun r1 h1 hp => ?_)
      obtain ⟨rfl, u, rfl, hF⟩ := hp
      have hsm := hF.sm
      have hRu := hsm.rm hR
      have hmu := hRu.cm
      have hQ := hF.fq
      obtain ⟨f1, f2, f3, f4⟩ := id hQ
      have f5 := hF.2.2.2.2.1
      obtain ⟨e1, e2, e3, ⟨g1, g2, g3, g4⟩, ⟨h1, h2⟩, ⟨i1, i2⟩⟩ := id hRu
      obtain ⟨i, rfl⟩ := Int.eq_ofNat_of_zero_le (show 0 ≤ i by omega)
      have hi : i < S.1.2.1 := by omega
      have hA : a_word S (i : Int) k = if k = 0 then S.1.2.2.1 i else if k = 1 then S.1.2.2.2.2.1 i else if k = 2 then rbS S.1 i else rbW S.1 i := by unfold a_word; rw [if_neg (by omega), Int.toNat_natCast]
      refine x_il_n (q := 37) dX7_word_36 rfl rfl ?_
      refine x_if_ne (t := 52) (q := 40) dX7_word_37 rfl rfl (fun c_37 => ?_) (fun c_37 => ?_)
      · skip
        refine x_il_n (q := 53) dX7_word_52 rfl rfl ?_
        refine x_ic (q := 54) dX7_word_53 rfl rfl ?_
        refine x_ic_ne (t := 69) (q := 57) dX7_word_54 rfl rfl (fun c_54 => ?_) (fun c_54 => ?_)
        · skip
          refine x_il_n (q := 70) dX7_word_69 rfl rfl ?_
          refine x_ic (q := 71) dX7_word_70 rfl rfl ?_
          refine x_ic_ne (t := 82) (q := 74) dX7_word_71 rfl rfl (fun c_71 => ?_) (fun c_71 => ?_)
          · skip
            refine x_al_n (q := 83) dX7_word_82 rfl rfl ?_
            refine x_il_n (q := 84) dX7_word_83 rfl rfl ?_
            refine x_V (q := 87) (ci := 7) dX7_word_84 rfl kX7_word_184 (m_byWindow hs hr hRu hV hQ hi) rfl rfl (hs _ _ rfl) (by decide) rfl (Nat.le_of_ble_eq_true rfl) ⟨rfl, rfl⟩ ⟨Nat.zero_le _, Nat.zero_le _⟩ (fun r1 h1 hp => ?_)
            obtain ⟨rfl, w0, rfl, hw2⟩ := hp
            have hsm2 : Sm v w0 := hsm.trans (Sm.of (fun d h1 h2 => hw2 d (by omega)) (by rw [hw2 70 (by decide)]) (by rw [hw2 70 (by decide)]) (by rw [hw2 70 (by decide)]))
            first
            | exact x_iret dX7_word_87 rfl rfl (Nat.zero_le _) ⟨by rw [a_word, if_pos (by omega)], v, rfl, Sm.refl v⟩
            | exact x_iret dX7_word_87 rfl rfl (Nat.zero_le _) ⟨by rw [hA, if_pos (by omega)], u, rfl, hsm⟩
            | exact x_iret dX7_word_87 rfl rfl (Nat.zero_le _) ⟨by rw [hA, if_neg (by omega), if_pos (by omega)], u, rfl, hsm⟩
            | exact x_iret dX7_word_87 rfl rfl (Nat.zero_le _) ⟨by rw [hA, if_neg (by omega), if_neg (by omega), if_pos (by omega)], u, rfl, hsm⟩
            | exact x_iret dX7_word_87 rfl rfl (Nat.zero_le _) ⟨by rw [hA, if_neg (by omega), if_neg (by omega), if_neg (by omega)], w0, rfl, hsm2⟩
          · skip
            refine x_al_n (q := 75) dX7_word_74 rfl rfl ?_
            refine x_il_n (q := 76) dX7_word_75 rfl rfl ?_
            refine x_VI (q := 79) (ci := 7) dX7_word_76 rfl kX7_word_181 (m_byStates hs hr hRu hV hQ hi) rfl rfl (hs _ _ rfl) (by decide) rfl (Nat.le_of_ble_eq_true rfl) ⟨rfl, rfl⟩ ⟨Nat.zero_le _, Nat.zero_le _⟩ ?_
            refine x_goto (t := 87) dX7_word_79 rfl ?_
            first
            | exact x_iret dX7_word_87 rfl rfl (Nat.zero_le _) ⟨by rw [a_word, if_pos (by omega)], v, rfl, Sm.refl v⟩
            | exact x_iret dX7_word_87 rfl rfl (Nat.zero_le _) ⟨by rw [hA, if_pos (by omega)], u, rfl, hsm⟩
            | exact x_iret dX7_word_87 rfl rfl (Nat.zero_le _) ⟨by rw [hA, if_neg (by omega), if_pos (by omega)], u, rfl, hsm⟩
            | exact x_iret dX7_word_87 rfl rfl (Nat.zero_le _) ⟨by rw [hA, if_neg (by omega), if_neg (by omega), if_pos (by omega)], u, rfl, hsm⟩
            | exact x_iret dX7_word_87 rfl rfl (Nat.zero_le _) ⟨by rw [hA, if_neg (by omega), if_neg (by omega), if_neg (by omega)], w0, rfl, hsm2⟩
        · skip
          refine x_al_n (q := 58) dX7_word_57 rfl rfl ?_
          refine x_getR (q := 61) (o := some (71)) dX7_word_58 rfl fX7_7 (hs _ _ rfl) rfl (hr _ _ rfl) ?_
          refine x_bi (q := 63) dX7_word_61 rfl rfl ?_
          refine x_il_n (q := 64) dX7_word_63 rfl rfl ?_
          refine x_add (q := 65) dX7_word_64 rfl ⟨by omega, by omega⟩ ?_
          refine x_ialde (q := 66) (z := S.1.2.2.2.2.1 i) dX7_word_65 rfl (hs _ _ rfl) (by omega) (by omega) (by rw [show (55 + (i : Int)).toNat = 0 + 55 + i by omega]; exact (e1.2.2.2 i hi).2.2) ?_
          refine x_goto (t := 87) dX7_word_66 rfl ?_
          first
          | exact x_iret dX7_word_87 rfl rfl (Nat.zero_le _) ⟨by rw [a_word, if_pos (by omega)], v, rfl, Sm.refl v⟩
          | exact x_iret dX7_word_87 rfl rfl (Nat.zero_le _) ⟨by rw [hA, if_pos (by omega)], u, rfl, hsm⟩
          | exact x_iret dX7_word_87 rfl rfl (Nat.zero_le _) ⟨by rw [hA, if_neg (by omega), if_pos (by omega)], u, rfl, hsm⟩
          | exact x_iret dX7_word_87 rfl rfl (Nat.zero_le _) ⟨by rw [hA, if_neg (by omega), if_neg (by omega), if_pos (by omega)], u, rfl, hsm⟩
          | exact x_iret dX7_word_87 rfl rfl (Nat.zero_le _) ⟨by rw [hA, if_neg (by omega), if_neg (by omega), if_neg (by omega)], w0, rfl, hsm2⟩
      · skip
        refine x_al_n (q := 41) dX7_word_40 rfl rfl ?_
        refine x_getR (q := 44) (o := some (71)) dX7_word_41 rfl fX7_7 (hs _ _ rfl) rfl (hr _ _ rfl) ?_
        refine x_bi (q := 46) dX7_word_44 rfl rfl ?_
        refine x_il_n (q := 47) dX7_word_46 rfl rfl ?_
        refine x_add (q := 48) dX7_word_47 rfl ⟨by omega, by omega⟩ ?_
        refine x_ialde (q := 49) (z := S.1.2.2.1 i) dX7_word_48 rfl (hs _ _ rfl) (by omega) (by omega) (by rw [show (31 + (i : Int)).toNat = 0 + 31 + i by omega]; exact (e1.2.2.2 i hi).2.1) ?_
        refine x_goto (t := 87) dX7_word_49 rfl ?_
        first
        | exact x_iret dX7_word_87 rfl rfl (Nat.zero_le _) ⟨by rw [a_word, if_pos (by omega)], v, rfl, Sm.refl v⟩
        | exact x_iret dX7_word_87 rfl rfl (Nat.zero_le _) ⟨by rw [hA, if_pos (by omega)], u, rfl, hsm⟩
        | exact x_iret dX7_word_87 rfl rfl (Nat.zero_le _) ⟨by rw [hA, if_neg (by omega), if_pos (by omega)], u, rfl, hsm⟩
        | exact x_iret dX7_word_87 rfl rfl (Nat.zero_le _) ⟨by rw [hA, if_neg (by omega), if_neg (by omega), if_pos (by omega)], u, rfl, hsm⟩
        | exact x_iret dX7_word_87 rfl rfl (Nat.zero_le _) ⟨by rw [hA, if_neg (by omega), if_neg (by omega), if_neg (by omega)], w0, rfl, hsm2⟩
    · skip
      have e_27 := of_decide_eq_false (b2i_0.mp c_27)
      refine x_ic (q := 31) dX7_word_30 rfl rfl ?_
      first
      | exact x_iret dX7_word_31 rfl rfl (Nat.zero_le _) ⟨by rw [a_word, if_pos (by omega)], v, rfl, Sm.refl v⟩
      | exact x_iret dX7_word_31 rfl rfl (Nat.zero_le _) ⟨by rw [hA, if_pos (by omega)], u, rfl, hsm⟩
      | exact x_iret dX7_word_31 rfl rfl (Nat.zero_le _) ⟨by rw [hA, if_neg (by omega), if_pos (by omega)], u, rfl, hsm⟩
      | exact x_iret dX7_word_31 rfl rfl (Nat.zero_le _) ⟨by rw [hA, if_neg (by omega), if_neg (by omega), if_pos (by omega)], u, rfl, hsm⟩
      | exact x_iret dX7_word_31 rfl rfl (Nat.zero_le _) ⟨by rw [hA, if_neg (by omega), if_neg (by omega), if_neg (by omega)], w0, rfl, hsm2⟩
set_option maxHeartbeats 4000000 in
set_option maxRecDepth 100000 in
theorem m_wrong (hs : ExtM sh) (hr : RokM rf) (hR : RM S v) (hV : SV S) {k : Int} : Cv g mX7_wrong [aR 70, aI k] (sh, rf, v) (sP (a_wrong S k) sh rf v) := by
  have hm := hR.cm
  have hv := hV.1.1
  have hS := nS_rng hv
  have hd := nd_rng hv
  have hq := pw16 hv.2.2.2.1 hv.2.2.2.2
  have hn24 := hV.1.2.1
  obtain ⟨hvB, hp1, hp2, hq1, hq2⟩ := id hv
  obtain ⟨m, hmq⟩ : ∃ m : Nat, (m : Int) = 2 ^ S.1.1.2.2.2.2.toNat := ⟨2 ^ S.1.1.2.2.2.2.toNat, by simp⟩
  have hnd : nd S.1.1 = 2 ^ S.1.1.2.2.2.1.toNat := rfl
  obtain ⟨a1, a2, a3, ⟨b1, b2, b3, b4⟩, ⟨c1, c2⟩, ⟨d1, d2⟩⟩ := id hR
  refine x_entry (ls := [some (aR 70), some (aI k), none, none]) rfl rfl (Nat.le_of_ble_eq_true rfl) ?_
  refine x_il_n (q := 1) dX7_wrong_0 rfl rfl ?_
  refine x_i2l (q := 2) dX7_wrong_1 rfl ?_
  refine x_lc (q := 3) (z := 0) dX7_wrong_2 rfl rfl ?_
  refine x_lc (q := 4) (z := 1) dX7_wrong_3 rfl rfl ?_
  refine x_SI (q := 7) dX7_wrong_4 rfl kX7_wrong_70 (m_in) rfl rfl (Nat.le_of_ble_eq_true rfl) ⟨rfl, rfl⟩ ⟨Nat.zero_le _, Nat.zero_le _⟩ ?_
  refine x_if_ne (t := 12) (q := 10) dX7_wrong_7 rfl rfl (fun c_7 => ?_) (fun c_7 => ?_)
  · skip
    have e_7 := of_decide_eq_true (b2i_n0.mp c_7)
    refine x_al_n (q := 13) dX7_wrong_12 rfl rfl ?_
    refine x_V (q := 16) (ci := 7) dX7_wrong_13 rfl kX7_wrong_56 (m_finds hs hr hm hv) rfl rfl (hs _ _ rfl) (by decide) rfl (Nat.le_of_ble_eq_true rfl) ⟨rfl, rfl⟩ ⟨Nat.zero_le _, Nat.zero_le _⟩ (fun r1 h1 hp => ?_)
    obtain ⟨rfl, u, rfl, hF⟩ := hp
    have hsm := hF.sm
    have hRu := hsm.rm hR
    have hmu := hRu.cm
    have hQ := hF.fq
    obtain ⟨f1, f2, f3, f4⟩ := id hQ
    have f5 := hF.2.2.2.2.1
    obtain ⟨e1, e2, e3, ⟨g1, g2, g3, g4⟩, ⟨h1, h2⟩, ⟨i1, i2⟩⟩ := id hRu
    refine x_ic (q := 17) dX7_wrong_16 rfl rfl ?_
    refine x_is2 (q := 18) dX7_wrong_17 rfl rfl ?_
    refine x_ic (q := 19) dX7_wrong_18 rfl rfl ?_
    refine x_is3 (q := 20) dX7_wrong_19 rfl rfl ?_
    have hA : a_wrong S k = cnt (fun i => !decide ((if k = 0 then rbS S.1 i else rbW S.1 i) = S.1.2.2.2.2.1 i)) S.1.2.1 := by unfold a_wrong; rw [if_neg (by omega)]
    rw [hA]
    refine x_up (S := fun i => ∀ y : Nat → Nat → Int, (∀ d, d ≠ 84 → y d = u d) → Wv g mX7_wrong 0 0 20 [some (aR 70), some (aI k), some (aI (cnt (fun i => !decide ((if k = 0 then rbS S.1 i else rbW S.1 i) = S.1.2.2.2.2.1 i)) i)), some (aI (i : Int))] [] (sh, rf, y) (sP (cnt (fun i => !decide ((if k = 0 then rbS S.1 i else rbW S.1 i) = S.1.2.2.2.2.1 i)) S.1.2.1) sh rf v)) S.1.2.1 ?_ ?_ 0 (Nat.zero_le _) u (fun _ _ => rfl)
    · intro y hy
      have hRy : RM S y := hRu.cong (fun d h1 h2 => hy d (by omega)) (by rw [hy 70 (by decide)]) (by rw [hy 70 (by decide)]) (by rw [hy 70 (by decide)])
      have hQy : FQ y S.1.1 := hQ.cong (hy 77 (by decide)) (hy 78 (by decide)) (by rw [hy 70 (by decide)]) (by rw [hy 70 (by decide)])
      refine x_il_n (q := 21) dX7_wrong_20 rfl rfl ?_
      refine x_al_n (q := 22) dX7_wrong_21 rfl rfl ?_
      refine x_getR (q := 25) (o := some (71)) dX7_wrong_22 rfl fX7_7 (hs _ _ rfl) rfl (hr _ _ rfl) ?_
      refine x_ic (q := 26) dX7_wrong_25 rfl rfl ?_
      refine x_ialde (q := 27) (z := (S.1.2.1 : Int)) dX7_wrong_26 rfl (hs _ _ rfl) (by omega) (by omega) ((by exact hRy.1.2.1)) ?_
      refine x_ic_ge (t := 73) (q := 30) dX7_wrong_27 rfl rfl (fun c_27 => ?_) (fun c_27 => ?_)
      · skip
        refine x_il_n (q := 74) dX7_wrong_73 rfl rfl ?_
        exact x_iret dX7_wrong_74 rfl rfl (Nat.zero_le _) ⟨rfl, y, rfl, hsm.trans (Sm.of (fun d h1 h2 => hy d (by omega)) (by rw [hy 70 (by decide)]) (by rw [hy 70 (by decide)]) (by rw [hy 70 (by decide)]))⟩
      · skip
        exact absurd (Int.le_refl _) c_27
    · intro i hi ih y hy
      have hRy : RM S y := hRu.cong (fun d h1 h2 => hy d (by omega)) (by rw [hy 70 (by decide)]) (by rw [hy 70 (by decide)]) (by rw [hy 70 (by decide)])
      have hQy : FQ y S.1.1 := hQ.cong (hy 77 (by decide)) (hy 78 (by decide)) (by rw [hy 70 (by decide)]) (by rw [hy 70 (by decide)])
      have hcr := cnt_rng (fun i => !decide ((if k = 0 then rbS S.1 i else rbW S.1 i) = S.1.2.2.2.2.1 i)) i
      refine x_il_n (q := 21) dX7_wrong_20 rfl rfl ?_
      refine x_al_n (q := 22) dX7_wrong_21 rfl rfl ?_
      refine x_getR (q := 25) (o := some (71)) dX7_wrong_22 rfl fX7_7 (hs _ _ rfl) rfl (hr _ _ rfl) ?_
      refine x_ic (q := 26) dX7_wrong_25 rfl rfl ?_
      refine x_ialde (q := 27) (z := (S.1.2.1 : Int)) dX7_wrong_26 rfl (hs _ _ rfl) (by omega) (by omega) ((by exact hRy.1.2.1)) ?_
      refine x_ic_ge (t := 73) (q := 30) dX7_wrong_27 rfl rfl (fun c_27 => ?_) (fun c_27 => ?_)
      · skip
        exact absurd c_27 (by omega)
      · skip
        refine x_il_n (q := 31) dX7_wrong_30 rfl rfl ?_
        refine x_il_n (q := 32) dX7_wrong_31 rfl rfl ?_
        refine x_if_ne (t := 43) (q := 35) dX7_wrong_32 rfl rfl (fun c_32 => ?_) (fun c_32 => ?_)
        · skip
          refine x_al_n (q := 44) dX7_wrong_43 rfl rfl ?_
          refine x_il_n (q := 45) dX7_wrong_44 rfl rfl ?_
          refine x_V (q := 48) (ci := 7) dX7_wrong_45 rfl kX7_wrong_184 (m_byWindow hs hr hRy hV hQy hi) rfl rfl (hs _ _ rfl) (by decide) rfl (Nat.le_of_ble_eq_true rfl) ⟨rfl, rfl⟩ ⟨Nat.zero_le _, Nat.zero_le _⟩ (fun r1 h1 hp => ?_)
          obtain ⟨rfl, w0, rfl, hw2⟩ := hp
          refine x_al_n (q := 49) dX7_wrong_48 rfl rfl ?_
          refine x_getR (q := 52) (o := some (71)) dX7_wrong_49 rfl fX7_7 (hs _ _ rfl) rfl (hr _ _ rfl) ?_
          refine x_bi (q := 54) dX7_wrong_52 rfl rfl ?_
          refine x_il_n (q := 55) dX7_wrong_54 rfl rfl ?_
          refine x_add (q := 56) dX7_wrong_55 rfl ⟨by omega, by omega⟩ ?_
          refine x_ialde (q := 57) (z := S.1.2.2.2.2.1 i) dX7_wrong_56 rfl (hs _ _ rfl) (by omega) (by omega) (by first | (rw [hw2 71 (by decide), show (55 + (i : Int)).toNat = 0 + 55 + i by omega]; exact (hRy.1.2.2.2 i hi).2.2) | (rw [show (55 + (i : Int)).toNat = 0 + 55 + i by omega]; exact (hRy.1.2.2.2 i hi).2.2)) ?_
          refine x_ic_eq (t := 64) (q := 60) dX7_wrong_57 rfl rfl (fun c_57 => ?_) (fun c_57 => ?_)
          · skip
            rw [cnt_f (by simp [c_32, c_57])] at ih
            refine x_ic (q := 65) dX7_wrong_64 rfl rfl ?_
            refine x_add (q := 66) dX7_wrong_65 rfl ⟨by omega, by omega⟩ ?_
            refine x_is2 (q := 67) dX7_wrong_66 rfl rfl ?_
            refine x_ii3 (q := 70) dX7_wrong_67 rfl rfl ⟨by omega, by omega⟩ ?_
            refine x_goto (t := 20) dX7_wrong_70 rfl ?_
            first | exact ih _ (fun d hd => by rw [hw2 d hd, hy d hd]) | exact ih _ hy | (rw [Int.add_zero]; exact ih _ (fun d hd => by rw [hw2 d hd, hy d hd])) | (rw [Int.add_zero]; exact ih _ hy)
          · skip
            rw [cnt_t (by simp [c_32, c_57])] at ih
            refine x_ic (q := 61) dX7_wrong_60 rfl rfl ?_
            refine x_goto (t := 65) dX7_wrong_61 rfl ?_
            refine x_add (q := 66) dX7_wrong_65 rfl ⟨by omega, by omega⟩ ?_
            refine x_is2 (q := 67) dX7_wrong_66 rfl rfl ?_
            refine x_ii3 (q := 70) dX7_wrong_67 rfl rfl ⟨by omega, by omega⟩ ?_
            refine x_goto (t := 20) dX7_wrong_70 rfl ?_
            first | exact ih _ (fun d hd => by rw [hw2 d hd, hy d hd]) | exact ih _ hy | (rw [Int.add_zero]; exact ih _ (fun d hd => by rw [hw2 d hd, hy d hd])) | (rw [Int.add_zero]; exact ih _ hy)
        · skip
          refine x_al_n (q := 36) dX7_wrong_35 rfl rfl ?_
          refine x_il_n (q := 37) dX7_wrong_36 rfl rfl ?_
          refine x_VI (q := 40) (ci := 7) dX7_wrong_37 rfl kX7_wrong_181 (m_byStates hs hr hRy hV hQy hi) rfl rfl (hs _ _ rfl) (by decide) rfl (Nat.le_of_ble_eq_true rfl) ⟨rfl, rfl⟩ ⟨Nat.zero_le _, Nat.zero_le _⟩ ?_
          refine x_goto (t := 48) dX7_wrong_40 rfl ?_
          refine x_al_n (q := 49) dX7_wrong_48 rfl rfl ?_
          refine x_getR (q := 52) (o := some (71)) dX7_wrong_49 rfl fX7_7 (hs _ _ rfl) rfl (hr _ _ rfl) ?_
          refine x_bi (q := 54) dX7_wrong_52 rfl rfl ?_
          refine x_il_n (q := 55) dX7_wrong_54 rfl rfl ?_
          refine x_add (q := 56) dX7_wrong_55 rfl ⟨by omega, by omega⟩ ?_
          refine x_ialde (q := 57) (z := S.1.2.2.2.2.1 i) dX7_wrong_56 rfl (hs _ _ rfl) (by omega) (by omega) (by first | (rw [hw2 71 (by decide), show (55 + (i : Int)).toNat = 0 + 55 + i by omega]; exact (hRy.1.2.2.2 i hi).2.2) | (rw [show (55 + (i : Int)).toNat = 0 + 55 + i by omega]; exact (hRy.1.2.2.2 i hi).2.2)) ?_
          refine x_ic_eq (t := 64) (q := 60) dX7_wrong_57 rfl rfl (fun c_57 => ?_) (fun c_57 => ?_)
          · skip
            rw [cnt_f (by simp [c_32, c_57])] at ih
            refine x_ic (q := 65) dX7_wrong_64 rfl rfl ?_
            refine x_add (q := 66) dX7_wrong_65 rfl ⟨by omega, by omega⟩ ?_
            refine x_is2 (q := 67) dX7_wrong_66 rfl rfl ?_
            refine x_ii3 (q := 70) dX7_wrong_67 rfl rfl ⟨by omega, by omega⟩ ?_
            refine x_goto (t := 20) dX7_wrong_70 rfl ?_
            first | exact ih _ (fun d hd => by rw [hw2 d hd, hy d hd]) | exact ih _ hy | (rw [Int.add_zero]; exact ih _ (fun d hd => by rw [hw2 d hd, hy d hd])) | (rw [Int.add_zero]; exact ih _ hy)
          · skip
            rw [cnt_t (by simp [c_32, c_57])] at ih
            refine x_ic (q := 61) dX7_wrong_60 rfl rfl ?_
            refine x_goto (t := 65) dX7_wrong_61 rfl ?_
            refine x_add (q := 66) dX7_wrong_65 rfl ⟨by omega, by omega⟩ ?_
            refine x_is2 (q := 67) dX7_wrong_66 rfl rfl ?_
            refine x_ii3 (q := 70) dX7_wrong_67 rfl rfl ⟨by omega, by omega⟩ ?_
            refine x_goto (t := 20) dX7_wrong_70 rfl ?_
            first | exact ih _ (fun d hd => by rw [hw2 d hd, hy d hd]) | exact ih _ hy | (rw [Int.add_zero]; exact ih _ (fun d hd => by rw [hw2 d hd, hy d hd])) | (rw [Int.add_zero]; exact ih _ hy)
  · skip
    have e_7 := of_decide_eq_false (b2i_0.mp c_7)
    refine x_ic (q := 11) dX7_wrong_10 rfl rfl ?_
    exact x_iret dX7_wrong_11 rfl rfl (Nat.zero_le _) ⟨by rw [a_wrong, if_pos (by omega)], v, rfl, Sm.refl v⟩
end MOW

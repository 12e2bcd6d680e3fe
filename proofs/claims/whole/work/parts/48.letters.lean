/-! ===== the Model: the text ===== -/
def Bd (t : Nat → Int) (n a : Nat) : Prop := (figB t n (a : Int) && figB t n ((a : Int) - 1)) = false
def cr (t : Nat → Int) (n a : Nat) (s : Sg) : Int × Cfg := crun t n (n - a) a s
def SK (t : Nat → Int) (n a b : Nat) : Prop := a ≤ b ∧ b ≤ n ∧ (∀ j : Nat, a ≤ j → j < b → ltr t n (j : Int) = 32) ∧ (b < n → ¬ ltr t n (b : Int) = 32)
section TXM
variable {t : Nat → Int} {n a b : Nat} {s s2 : Sg}
theorem cr_end : cr t n n s = (if s.1 = 8 then -1 else (n : Int), s.2.2.2) := by unfold cr; rw [Nat.sub_self]; rfl
theorem cr_s (h : a < n) : cr t n a s = if tokB t n (a : Int) = true then (match stT t n (a : Int) s with | none => ((a : Int), s.2.2.2) | some s' => cr t n (a + 1) s') else cr t n (a + 1) s := by
  unfold cr
  rw [show n - a = (n - (a + 1)) + 1 by omega]
  rfl
theorem cr_sk (h : SK t n a b) (s : Sg) : cr t n a s = cr t n b s := by
  obtain ⟨h1, h2, h3, -⟩ := h
  obtain ⟨d, rfl⟩ : ∃ d, b = a + d := ⟨b - a, by omega⟩
  clear h1
  induction d with
  | zero => rfl
  | succ d ih =>
    rw [ih (by omega) (fun j g1 g2 => h3 j g1 (by omega)), cr_s (by omega), if_neg]
    · rfl
    · unfold tokB
      rw [decide_eq_true (h3 (a + d) (by omega) (by omega))]
      simp
theorem fig_32 {x : Int} (h : ltr t n x = 32) : figB t n x = false := by unfold figB; rw [h]; rfl
theorem Bd_sk (h : SK t n a b) (hb : Bd t n a) : Bd t n b := by
  by_cases e : b = a
  · rw [e]; exact hb
  · obtain ⟨h1, h2, h3, -⟩ := h
    unfold Bd
    rw [show (b : Int) - 1 = ((b - 1 : Nat) : Int) by omega, fig_32 (h3 (b - 1) (by omega) (by omega))]
    simp
theorem tok_t (h : ¬ ltr t n (a : Int) = 32) (hb : Bd t n a) : tokB t n (a : Int) = true := by
  unfold tokB
  rw [decide_eq_false h]
  unfold Bd at hb
  rw [hb]; rfl
theorem cr_some (h : a < n) (h1 : ¬ ltr t n (a : Int) = 32) (hb : Bd t n a) (hs : stT t n (a : Int) s = some s2) : cr t n a s = cr t n (a + 1) s2 := by
  rw [cr_s h, if_pos (tok_t h1 hb), hs]
theorem cr_no (h : SK t n b a) (hb : Bd t n a) (h8 : ¬ s.1 = 8) (hs : a < n → stT t n (a : Int) s = none) : (cr t n a s).1 = (a : Int) := by
  by_cases e : a < n
  · rw [cr_s e, if_pos (tok_t (h.2.2.2 e) hb), hs e]
  · have : a = n := by have := h.2.1; omega
    rw [this, cr_end, if_neg h8]
theorem ltr_at (h : a < n) : ltr t n (a : Int) = t a := by unfold ltr; rw [if_pos (by omega)]; rfl
theorem SK_self (h : SK t n a b) (h1 : a < n) (h2 : ¬ ltr t n (a : Int) = 32) : b = a := by
  obtain ⟨g1, g2, g3, -⟩ := h
  by_cases e : b = a
  · exact e
  · exact absurd (g3 a (Nat.le_refl _) (by omega)) h2
theorem tlen_1 {x : Int} (h : (figB t n x && figB t n (x + 1)) = false) : tlen t n x = 1 := by
  unfold tlen
  show (if (figB t n x && figB t n (x + ((1 : Nat) : Int))) = true then _ else 1) = 1
  rw [if_neg]
  rw [show ((1 : Nat) : Int) = 1 from rfl, h]
  decide
theorem fg_ok {x lo hi : Int} (h1 : figB t n x = true) (h2 : figB t n (x + 1) = false) (h3 : lo ≤ ltr t n x - 48) (h4 : ltr t n x - 48 ≤ hi) : fgA t n x lo hi = ltr t n x - 48 := by
  unfold fgA
  rw [if_neg]
  rw [tlen_1 (by rw [h2, Bool.and_false])]
  omega
theorem fg_no {x lo hi : Int} (h0 : 0 ≤ lo) (h9 : hi ≤ 9) (h : figB t n x = false ∨ figB t n (x + 1) = true ∨ ltr t n x - 48 < lo ∨ hi < ltr t n x - 48) : fgA t n x lo hi = -1 := by
  unfold fgA
  rw [if_pos]
  by_cases hf : figB t n x = true
  · rcases h with h | h | h | h
    · rw [hf] at h; cases h
    · left
      have e : tlen t n x = tlk t n x 58 2 := by
        unfold tlen
        show (if (figB t n x && figB t n (x + ((1 : Nat) : Int))) = true then tlk t n x 58 2 else 1) = _
        rw [if_pos]
        rw [show ((1 : Nat) : Int) = 1 from rfl, hf, h]; rfl
      have := (tlk_rng (t := t) (n := n) (a := x) 58 2).1
      omega
    · exact .inr (.inl h)
    · exact .inr (.inr h)
  · unfold figB at hf
    have := of_decide_eq_false (by simpa using hf : decide (48 ≤ ltr t n x ∧ ltr t n x ≤ 57) = false)
    omega
theorem tlk_spec {x : Int} (hx : figB t n x = true) : ∀ (k l : Nat), (∀ j : Nat, j < l → figB t n (x + j) = true) → (∀ j : Nat, j < tlk t n x k l → figB t n (x + j) = true) ∧ (figB t n (x + (tlk t n x k l : Nat)) = false ∨ tlk t n x k l = l + k)
  | 0, l, h => ⟨h, .inr rfl⟩
  | k + 1, l, h => by
    unfold tlk
    by_cases hc : (figB t n x && figB t n (x + l)) = true
    · rw [if_pos hc]
      have ih := tlk_spec hx k (l + 1) (fun j hj => by
        by_cases e : j = l
        · rw [e]; rw [Bool.and_eq_true] at hc; exact hc.2
        · exact h j (by omega))
      exact ⟨ih.1, by rcases ih.2 with q | q; exact .inl q; exact .inr (by omega)⟩
    · rw [if_neg hc]
      refine ⟨h, .inl ?_⟩
      rw [hx] at hc
      simpa using hc
theorem tl_spec (hn : n ≤ 60) (hx : figB t n (a : Int) = true) : (∀ j : Nat, j < tlen t n (a : Int) → figB t n ((a : Int) + j) = true) ∧ figB t n ((a : Int) + (tlen t n (a : Int) : Nat)) = false := by
  have h := tlk_spec hx 59 1 (fun j hj => by rw [show j = 0 by omega]; simpa using hx)
  refine ⟨h.1, ?_⟩
  rcases h.2 with q | q
  · exact q
  · apply fig_32
    have : tlen t n (a : Int) = 60 := q
    unfold ltr
    rw [if_neg (by omega)]
theorem fig_rng {x : Int} (h : figB t n x = true) : 48 ≤ ltr t n x ∧ ltr t n x ≤ 57 := of_decide_eq_true h
theorem fig_lt {x : Int} (h : figB t n x = true) : 0 ≤ x ∧ x < n := by
  by_cases e : 0 ≤ x ∧ x < n
  · exact e
  · have := fig_rng h
    unfold ltr at this
    rw [if_neg e] at this
    omega
/-- over the figures of a run -/
theorem cr_run (hn : n ≤ 60) (hx : figB t n (a : Int) = true) : ∀ d : Nat, 1 + d ≤ tlen t n (a : Int) → cr t n (a + 1) s = cr t n (a + 1 + d) s
  | 0, _ => rfl
  | d + 1, hd => by
    have h := tl_spec hn hx
    have h1 := h.1 (1 + d) (by omega)
    have h2 := h.1 d (by omega)
    have hl := fig_lt h1
    rw [cr_run hn hx d (by omega), cr_s (by omega), if_neg]
    · rfl
    · unfold tokB
      rw [show ((a + 1 + d : Nat) : Int) = (a : Int) + ((1 + d : Nat) : Int) by omega, h1, show (a : Int) + ((1 + d : Nat) : Int) - 1 = (a : Int) + (d : Int) by omega, h2]
      simp
def vv (t : Nat → Int) (n a : Nat) : Nat → Int
  | 0 => 0
  | i + 1 => vv t n a i * 2 + (ltr t n ((a : Int) + i) - 48)
def gB (t : Nat → Int) (n a i : Nat) : Bool := decide (i ≤ 5) && alN (fun j => decide (ltr t n ((a : Int) + j) < 50)) i
theorem alN_t {f : Nat → Bool} : ∀ {n}, alN f n = true → ∀ j, j < n → f j = true
  | n + 1, h, j, hj => by
    unfold alN at h
    rw [Bool.and_eq_true] at h
    by_cases e : j = n
    · rw [e]; exact h.2
    · exact alN_t h.1 j (by omega)
theorem alN_ex {f : Nat → Bool} : ∀ {n}, alN f n = false → ∃ j, j < n ∧ f j = false
  | n + 1, h => by
    unfold alN at h
    rcases Bool.and_eq_false_iff.mp h with q | q
    · obtain ⟨j, j1, j2⟩ := alN_ex q
      exact ⟨j, by omega, j2⟩
    · exact ⟨n, by omega, q⟩
theorem vv_rng (hf : ∀ j : Nat, j < b → figB t n ((a : Int) + j) = true ∧ ltr t n ((a : Int) + j) < 50) : ∀ i, i ≤ b → 0 ≤ vv t n a i ∧ vv t n a i < 2 ^ i
  | 0, _ => ⟨Int.le_refl _, by show (0 : Int) < 1; decide⟩
  | i + 1, hi => by
    have ih := vv_rng hf i (by omega)
    have h1 := hf i (by omega)
    have h2 := fig_rng h1.1
    have e : (2 : Int) ^ (i + 1) = 2 ^ i * 2 := Int.pow_succ _ _
    show 0 ≤ vv t n a i * 2 + (ltr t n ((a : Int) + i) - 48) ∧ vv t n a i * 2 + (ltr t n ((a : Int) + i) - 48) < 2 ^ (i + 1)
    omega
theorem bta_vv (hf : ∀ j : Nat, j < b → figB t n ((a : Int) + j) = true ∧ ltr t n ((a : Int) + j) < 50) : ∀ k i, i + k = b → bta t n (a : Int) k i (vv t n a i) = vv t n a b
  | 0, i, h => by rw [show b = i by omega]; rfl
  | k + 1, i, h => by
    have h1 := hf i (by omega)
    have h2 := fig_rng h1.1
    unfold bta
    rw [if_neg (by omega)]
    exact bta_vv hf k (i + 1) (by omega)
theorem bta_no {x : Int} : ∀ (k i : Nat) (c : Int), (∃ j : Nat, i ≤ j ∧ j < i + k ∧ 50 ≤ ltr t n (x + j)) → bta t n x k i c = -1
  | 0, i, c, ⟨j, h1, h2, _⟩ => by omega
  | k + 1, i, c, ⟨j, h1, h2, h3⟩ => by
    unfold bta
    by_cases e : ltr t n (x + i) - 48 < 0 ∨ 1 < ltr t n (x + i) - 48
    · rw [if_pos e]
    · rw [if_neg e]
      have hji : j ≠ i := fun q => by rw [q] at h3; omega
      exact bta_no k (i + 1) _ ⟨j, by omega, by omega, h3⟩
theorem bt_ok (hn : n ≤ 60) (hx : figB t n (a : Int) = true) (hg : gB t n a (tlen t n (a : Int)) = true) (h2 : 2 ≤ tlen t n (a : Int)) : btA t n (a : Int) (tlen t n (a : Int)) = vv t n a (tlen t n (a : Int)) ∧ ¬ btA t n (a : Int) (tlen t n (a : Int)) = -1 := by
  have hs := tl_spec hn hx
  unfold gB at hg
  rw [Bool.and_eq_true] at hg
  have h5 := of_decide_eq_true hg.1
  have hf : ∀ j : Nat, j < tlen t n (a : Int) → figB t n ((a : Int) + j) = true ∧ ltr t n ((a : Int) + j) < 50 := fun j hj => ⟨hs.1 j hj, of_decide_eq_true (alN_t hg.2 j hj)⟩
  have e : btA t n (a : Int) (tlen t n (a : Int)) = vv t n a (tlen t n (a : Int)) := by
    unfold btA
    rw [if_neg (by omega)]
    exact bta_vv hf _ 0 (by omega)
  have := vv_rng hf _ (Nat.le_refl _)
  exact ⟨e, by omega⟩
theorem bt_no (hn : n ≤ 60) (hx : figB t n (a : Int) = true) (hg : gB t n a (tlen t n (a : Int)) = false ∨ tlen t n (a : Int) < 2) : btA t n (a : Int) (tlen t n (a : Int)) = -1 := by
  unfold btA
  by_cases h : tlen t n (a : Int) < 2 ∨ 5 < tlen t n (a : Int)
  · rw [if_pos h]
  · rw [if_neg h]
    rcases hg with hg | hg
    · unfold gB at hg
      rw [decide_eq_true (by omega), Bool.true_and] at hg
      obtain ⟨j, j1, j2⟩ := alN_ex hg
      exact bta_no _ _ _ ⟨j, by omega, by omega, by have := of_decide_eq_false j2; omega⟩
    · omega
end TXM
def TM (v : Nat → Nat → Int) (t : Nat → Int) (n : Nat) : Prop := v 70 8 = (n : Int) ∧ n ≤ 60 ∧ (∀ i, i < n → v 76 i = t i) ∧ TR t n
def XF (v u : Nat → Nat → Int) : Prop := (∀ d, d ≠ 70 → d ≠ 79 → u d = v d) ∧ ∀ k, k ≠ 13 → k ≠ 15 → u 70 k = v 70 k
theorem XF.refl (v : Nat → Nat → Int) : XF v v := ⟨fun _ _ _ => rfl, fun _ _ _ => rfl⟩
theorem XF.trans {v u w : Nat → Nat → Int} (h : XF v u) (k : XF u w) : XF v w := ⟨fun d h1 h2 => (k.1 d h1 h2).trans (h.1 d h1 h2), fun j h1 h2 => (k.2 j h1 h2).trans (h.2 j h1 h2)⟩
theorem XF.up70 {v u : Nat → Nat → Int} (h : XF v u) {k : Nat} (hk : k = 13 ∨ k = 15) (z : Int) : XF v (up u 70 k z) := ⟨fun d h1 h2 => by rw [up_n _ _ _ h1]; exact h.1 d h1 h2, fun j h1 h2 => by rw [up_at, if_neg (by omega)]; exact h.2 j h1 h2⟩
theorem XF.up79 {v u : Nat → Nat → Int} (h : XF v u) (k : Nat) (z : Int) : XF v (up u 79 k z) := ⟨fun d h1 h2 => by rw [up_n _ _ _ h2]; exact h.1 d h1 h2, fun j h1 h2 => by rw [up_n _ _ _ (by decide)]; exact h.2 j h1 h2⟩
theorem TM.xf {v u : Nat → Nat → Int} {t : Nat → Int} {n : Nat} (h : TM v t n) (k : XF v u) : TM u t n := ⟨by rw [k.2 8 (by decide) (by decide)]; exact h.1, h.2.1, fun i hi => by rw [k.1 76 (by decide) (by decide)]; exact h.2.2.1 i hi, h.2.2.2⟩
theorem TM.l {v : Nat → Nat → Int} {t : Nat → Int} {n : Nat} (h : TM v t n) (a : Int) : 0 ≤ ltr t n a ∧ ltr t n a ≤ 255 := ltr_rng h.2.2.2 a
section MOT
variable {g : GL} {sh : List (Nat × Nat)} {rf : Nat → Nat → Option Nat} {v : Nat → Nat → Int} {t : Nat → Int} {n a : Nat}

set_option maxHeartbeats 4000000 in
set_option maxRecDepth 100000 in
theorem m_isFigure (hs : ExtM sh) (hr : RokM rf) (hT : TM v t n) {x : Nat} : Cv g mX7_isFigure [aR 70, aI (x : Int)] (sh, rf, v) (retI (b2i (figB t n (x : Int))) (sh, rf, v)) := by
  have hn := hT.2.1
  refine x_entry (ls := [some (aR 70), some (aI (x : Int))]) rfl rfl (Nat.le_of_ble_eq_true rfl) ?_
  refine x_il_n (q := 1) dX7_isFigure_0 rfl rfl ?_
  refine x_al_n (q := 2) dX7_isFigure_1 rfl rfl ?_
  refine x_getIe (q := 5) (z := (n : Int)) dX7_isFigure_2 rfl fX7_103 (hs _ _ rfl) rfl (hT.1) ?_
  refine x_ic_ge (t := 31) (q := 8) dX7_isFigure_5 rfl rfl (fun c_5 => ?_) (fun c_5 => ?_)
  · skip
    have hF : figB t n (x : Int) = false := fig_32 (by unfold ltr; rw [if_neg (by omega)])
    refine x_ic (q := 32) dX7_isFigure_31 rfl rfl ?_
    exact x_zret dX7_isFigure_32 rfl (by first | exact .inl rfl | exact .inr rfl | exact b2i_01 _) rfl (Nat.zero_le _) (retI_mk (by rw [hF]; rfl))
  · skip
    refine x_al_n (q := 9) dX7_isFigure_8 rfl rfl ?_
    refine x_getR (q := 12) (o := some (76)) dX7_isFigure_9 rfl fX7_26 (hs _ _ rfl) rfl (hr _ _ rfl) ?_
    refine x_il_n (q := 13) dX7_isFigure_12 rfl rfl ?_
    refine x_ialde (q := 14) (z := t x) dX7_isFigure_13 rfl (hs _ _ rfl) (by omega) (by omega) (by rw [Int.toNat_natCast]; exact hT.2.2.1 x (by omega)) ?_
    refine x_i2l (q := 15) dX7_isFigure_14 rfl ?_
    refine x_ldc2 (q := 18) dX7_isFigure_15 rfl q807 rfl ?_
    refine x_ldc2 (q := 21) dX7_isFigure_18 rfl q808 rfl ?_
    refine x_SI (q := 24) dX7_isFigure_21 rfl kX7_isFigure_70 (m_in) rfl rfl (Nat.le_of_ble_eq_true rfl) ⟨rfl, rfl⟩ ⟨Nat.zero_le _, Nat.zero_le _⟩ ?_
    refine x_if_eq (t := 31) (q := 27) dX7_isFigure_24 rfl rfl (fun c_24 => ?_) (fun c_24 => ?_)
    · skip
      have hF : figB t n (x : Int) = false := by unfold figB; rw [ltr_at (by omega)]; exact b2i_0.mp c_24
      refine x_ic (q := 32) dX7_isFigure_31 rfl rfl ?_
      exact x_zret dX7_isFigure_32 rfl (by first | exact .inl rfl | exact .inr rfl | exact b2i_01 _) rfl (Nat.zero_le _) (retI_mk (by rw [hF]; rfl))
    · skip
      have hF : figB t n (x : Int) = true := by unfold figB; rw [ltr_at (by omega)]; exact b2i_n0.mp c_24
      refine x_ic (q := 28) dX7_isFigure_27 rfl rfl ?_
      refine x_goto (t := 32) dX7_isFigure_28 rfl ?_
      exact x_zret dX7_isFigure_32 rfl (by first | exact .inl rfl | exact .inr rfl | exact b2i_01 _) rfl (Nat.zero_le _) (retI_mk (by rw [hF]; rfl))
set_option maxHeartbeats 4000000 in
set_option maxRecDepth 100000 in
theorem m_here (hs : ExtM sh) (hr : RokM rf) (hT : TM v t n) (ha : a ≤ n) (hsp : v 70 13 = (a : Int)) : Cv g mX7_here [aR 70] (sh, rf, v) (fun r h1 => ∃ b : Nat, SK t n a b ∧ r = some (aI (if b < n then t b else -1)) ∧ h1 = (sh, rf, up v 70 13 (b : Int))) := by
  have hn := hT.2.1
  have hv0 : v = up v 70 13 (a : Int) := by rw [← hsp, up_same]
  refine x_entry (ls := [some (aR 70)]) rfl rfl (Nat.le_of_ble_eq_true rfl) ?_
  refine x_heap (h' := (sh, rf, up v 70 13 (a : Int))) (by rw [← hv0]) ?_
  refine x_up (S := fun b => a ≤ b → (∀ j : Nat, a ≤ j → j < b → ltr t n (j : Int) = 32) → Wv g mX7_here 0 0 0 [some (aR 70)] [] (sh, rf, up v 70 13 (b : Int)) (fun r h1 => ∃ b : Nat, SK t n a b ∧ r = some (aI (if b < n then t b else -1)) ∧ h1 = (sh, rf, up v 70 13 (b : Int)))) n ?_ ?_ a ha (Nat.le_refl _) (fun j h1 h2 => by omega)
  · intro hab hbl
    refine x_al_n (q := 1) dX7_here_0 rfl rfl ?_
    refine x_getIe (q := 4) (z := (n : Int)) dX7_here_1 rfl fX7_106 (hs _ _ rfl) rfl (by rw [up_at, if_pos rfl]) ?_
    refine x_al_n (q := 5) dX7_here_4 rfl rfl ?_
    refine x_getIe (q := 8) (z := (n : Int)) dX7_here_5 rfl fX7_103 (hs _ _ rfl) rfl (by rw [up_at, if_neg (by decide)]; exact hT.1) ?_
    refine x_ic_ge (t := 38) (q := 11) dX7_here_8 rfl rfl (fun c_8 => ?_) (fun c_8 => ?_)
    · skip
      refine x_al_n (q := 39) dX7_here_38 rfl rfl ?_
      refine x_getIe (q := 42) (z := (n : Int)) dX7_here_39 rfl fX7_106 (hs _ _ rfl) rfl (by rw [up_at, if_pos rfl]) ?_
      refine x_al_n (q := 43) dX7_here_42 rfl rfl ?_
      refine x_getIe (q := 46) (z := (n : Int)) dX7_here_43 rfl fX7_103 (hs _ _ rfl) rfl (by rw [up_at, if_neg (by decide)]; exact hT.1) ?_
      refine x_ic_ge (t := 61) (q := 49) dX7_here_46 rfl rfl (fun c_46 => ?_) (fun c_46 => ?_)
      · skip
        refine x_ic (q := 62) dX7_here_61 rfl rfl ?_
        exact x_iret dX7_here_62 rfl rfl (Nat.zero_le _) ⟨n, ⟨hab, Nat.le_refl _, hbl, fun h => by omega⟩, by rw [if_neg (by omega)], rfl⟩
      · skip
        exact absurd (Int.le_refl _) c_46
    · skip
      exact absurd (Int.le_refl _) c_8
  · intro b hbn ih hab hbl
    refine x_al_n (q := 1) dX7_here_0 rfl rfl ?_
    refine x_getIe (q := 4) (z := (b : Int)) dX7_here_1 rfl fX7_106 (hs _ _ rfl) rfl (by rw [up_at, if_pos rfl]) ?_
    refine x_al_n (q := 5) dX7_here_4 rfl rfl ?_
    refine x_getIe (q := 8) (z := (n : Int)) dX7_here_5 rfl fX7_103 (hs _ _ rfl) rfl (by rw [up_at, if_neg (by decide)]; exact hT.1) ?_
    refine x_ic_ge (t := 38) (q := 11) dX7_here_8 rfl rfl (fun c_8 => ?_) (fun c_8 => ?_)
    · skip
      exact absurd c_8 (by omega)
    · skip
      refine x_al_n (q := 12) dX7_here_11 rfl rfl ?_
      refine x_getR (q := 15) (o := some (76)) dX7_here_12 rfl fX7_26 (hs _ _ rfl) rfl (hr _ _ rfl) ?_
      refine x_al_n (q := 16) dX7_here_15 rfl rfl ?_
      refine x_getIe (q := 19) (z := (b : Int)) dX7_here_16 rfl fX7_106 (hs _ _ rfl) rfl (by rw [up_at, if_pos rfl]) ?_
      refine x_ialde (q := 20) (z := t b) dX7_here_19 rfl (hs _ _ rfl) (by omega) (by omega) (by rw [up_n _ _ _ (by decide), Int.toNat_natCast]; exact hT.2.2.1 b (by omega)) ?_
      refine x_bi (q := 22) dX7_here_20 rfl rfl ?_
      refine x_ic_ne (t := 38) (q := 25) dX7_here_22 rfl rfl (fun c_22 => ?_) (fun c_22 => ?_)
      · skip
        refine x_al_n (q := 39) dX7_here_38 rfl rfl ?_
        refine x_getIe (q := 42) (z := (b : Int)) dX7_here_39 rfl fX7_106 (hs _ _ rfl) rfl (by rw [up_at, if_pos rfl]) ?_
        refine x_al_n (q := 43) dX7_here_42 rfl rfl ?_
        refine x_getIe (q := 46) (z := (n : Int)) dX7_here_43 rfl fX7_103 (hs _ _ rfl) rfl (by rw [up_at, if_neg (by decide)]; exact hT.1) ?_
        refine x_ic_ge (t := 61) (q := 49) dX7_here_46 rfl rfl (fun c_46 => ?_) (fun c_46 => ?_)
        · skip
          exact absurd c_46 (by omega)
        · skip
          refine x_al_n (q := 50) dX7_here_49 rfl rfl ?_
          refine x_getR (q := 53) (o := some (76)) dX7_here_50 rfl fX7_26 (hs _ _ rfl) rfl (hr _ _ rfl) ?_
          refine x_al_n (q := 54) dX7_here_53 rfl rfl ?_
          refine x_getIe (q := 57) (z := (b : Int)) dX7_here_54 rfl fX7_106 (hs _ _ rfl) rfl (by rw [up_at, if_pos rfl]) ?_
          refine x_ialde (q := 58) (z := t b) dX7_here_57 rfl (hs _ _ rfl) (by omega) (by omega) (by rw [up_n _ _ _ (by decide), Int.toNat_natCast]; exact hT.2.2.1 b (by omega)) ?_
          refine x_goto (t := 62) dX7_here_58 rfl ?_
          exact x_iret dX7_here_62 rfl rfl (Nat.zero_le _) ⟨b, ⟨hab, by omega, hbl, fun h => by rw [ltr_at hbn]; exact c_22⟩, by rw [if_pos hbn], rfl⟩
      · skip
        refine x_al_n (q := 26) dX7_here_25 rfl rfl ?_
        refine x_dup (q := 27) dX7_here_26 rfl rfl ?_
        refine x_getIe (q := 30) (z := (b : Int)) dX7_here_27 rfl fX7_106 (hs _ _ rfl) rfl (by rw [up_at, if_pos rfl]) ?_
        refine x_ic (q := 31) dX7_here_30 rfl rfl ?_
        refine x_add (q := 32) dX7_here_31 rfl ⟨by omega, by omega⟩ ?_
        refine x_putI (q := 35) dX7_here_32 rfl fX7_106 (hs _ _ rfl) (.inl rfl) rfl ?_
        refine x_goto (t := 0) dX7_here_35 rfl ?_
        rw [up_up]
        refine ih (by omega) (fun j h1 h2 => ?_)
        by_cases e : j = b
        · rw [e, ltr_at hbn]; exact c_22
        · exact hbl j h1 (by omega)
set_option maxHeartbeats 4000000 in
set_option maxRecDepth 100000 in
theorem m_takes (hs : ExtM sh) (hr : RokM rf) (hT : TM v t n) (ha : a ≤ n) (hsp : v 70 13 = (a : Int)) {x : Int} (hx : 0 ≤ x) : Cv g mX7_takes [aR 70, aI x] (sh, rf, v) (fun r h1 => ∃ (b : Nat) (z : Bool) (u : Nat → Nat → Int), r = some (aI (b2i z)) ∧ h1 = (sh, rf, u) ∧ SK t n a b ∧ z = decide (b < n ∧ t b = x) ∧ XF v u ∧ u 79 = v 79 ∧ u 70 15 = v 70 15 ∧ u 70 13 = (if z = true then (b : Int) + 1 else (b : Int))) := by
  have hn := hT.2.1
  refine x_entry (ls := [some (aR 70), some (aI x)]) rfl rfl (Nat.le_of_ble_eq_true rfl) ?_
  refine x_al_n (q := 1) dX7_takes_0 rfl rfl ?_
  refine x_V (q := 4) (ci := 7) dX7_takes_1 rfl kX7_takes_113 (m_here hs hr hT ha hsp) rfl rfl (hs _ _ rfl) (by decide) rfl (Nat.le_of_ble_eq_true rfl) ⟨rfl, rfl⟩ ⟨Nat.zero_le _, Nat.zero_le _⟩ (fun r1 h1 hp => ?_)
  obtain ⟨b, hsk, rfl, rfl⟩ := hp
  have hbn := hsk.2.1
  refine x_il_n (q := 5) dX7_takes_4 rfl rfl ?_
  refine x_ic_eq (t := 10) (q := 8) dX7_takes_5 rfl rfl (fun c_5 => ?_) (fun c_5 => ?_)
  · skip
    have hz : b < n ∧ t b = x := by split at c_5; exact ⟨by assumption, c_5⟩; omega
    refine x_al_n (q := 11) dX7_takes_10 rfl rfl ?_
    refine x_dup (q := 12) dX7_takes_11 rfl rfl ?_
    refine x_getIe (q := 15) (z := (b : Int)) dX7_takes_12 rfl fX7_106 (hs _ _ rfl) rfl (by rw [up_at, if_pos rfl]) ?_
    refine x_ic (q := 16) dX7_takes_15 rfl rfl ?_
    refine x_add (q := 17) dX7_takes_16 rfl ⟨by omega, by omega⟩ ?_
    refine x_putI (q := 20) dX7_takes_17 rfl fX7_106 (hs _ _ rfl) (.inl rfl) rfl ?_
    refine x_ic (q := 21) dX7_takes_20 rfl rfl ?_
    exact x_zret dX7_takes_21 rfl (.inr rfl) rfl (Nat.zero_le _) ⟨b, true, _, rfl, rfl, hsk, (decide_eq_true hz).symm, ((XF.refl v).up70 (.inl rfl) _).up70 (.inl rfl) _, by rw [up_n _ _ _ (by decide), up_n _ _ _ (by decide)], by rw [up_at, if_neg (by decide), up_at, if_neg (by decide)], by rw [up_at, if_pos rfl, if_pos rfl]⟩
  · skip
    have hz : ¬ (b < n ∧ t b = x) := fun h => by rw [if_pos h.1] at c_5; exact c_5 h.2
    refine x_ic (q := 9) dX7_takes_8 rfl rfl ?_
    exact x_zret dX7_takes_9 rfl (.inl rfl) rfl (Nat.zero_le _) ⟨b, false, _, rfl, rfl, hsk, (decide_eq_false hz).symm, (XF.refl v).up70 (.inl rfl) _, up_n _ _ _ (by decide), by rw [up_at, if_neg (by decide)], by rw [up_at, if_pos rfl]; rfl⟩
set_option maxHeartbeats 4000000 in
set_option maxRecDepth 100000 in
theorem m_takesNumber (hs : ExtM sh) (hr : RokM rf) (hT : TM v t n) (ha : a ≤ n) (hsp : v 70 13 = (a : Int)) {lo hi : Int} (hl : 0 ≤ lo) (hh : hi ≤ 9) : Cv g mX7_takesNumber [aR 70, aI lo, aI hi] (sh, rf, v) (fun r h1 => ∃ (b : Nat) (z : Bool) (u : Nat → Nat → Int), r = some (aI (b2i z)) ∧ h1 = (sh, rf, u) ∧ SK t n a b ∧ XF v u ∧ u 79 = v 79 ∧ (z = true → b < n ∧ ¬ fgA t n (b : Int) lo hi = -1 ∧ u 70 15 = fgA t n (b : Int) lo hi ∧ u 70 13 = (b : Int) + 1 ∧ Bd t n (b + 1)) ∧ (z = false → fgA t n (b : Int) lo hi = -1 ∧ u 70 13 = (b : Int))) := by
  have hn := hT.2.1
  refine x_entry (ls := [some (aR 70), some (aI lo), some (aI hi), none]) rfl rfl (Nat.le_of_ble_eq_true rfl) ?_
  refine x_al_n (q := 1) dX7_takesNumber_0 rfl rfl ?_
  refine x_V (q := 4) (ci := 7) dX7_takesNumber_1 rfl kX7_takesNumber_113 (m_here hs hr hT ha hsp) rfl rfl (hs _ _ rfl) (by decide) rfl (Nat.le_of_ble_eq_true rfl) ⟨rfl, rfl⟩ ⟨Nat.zero_le _, Nat.zero_le _⟩ (fun r1 h1 hp => ?_)
  obtain ⟨b, hsk, rfl, rfl⟩ := hp
  have hbn := hsk.2.1
  have hTu : TM (up v 70 13 (b : Int)) t n := hT.xf ((XF.refl v).up70 (.inl rfl) _)
  have hlb := hT.l (b : Int)
  refine x_is3 (q := 5) dX7_takesNumber_4 rfl rfl ?_
  refine x_al_n (q := 6) dX7_takesNumber_5 rfl rfl ?_
  refine x_al_n (q := 7) dX7_takesNumber_6 rfl rfl ?_
  refine x_getIe (q := 10) (z := (b : Int)) dX7_takesNumber_7 rfl fX7_106 (hs _ _ rfl) rfl (by rw [up_at, if_pos rfl]) ?_
  refine x_VI (q := 13) (ci := 7) dX7_takesNumber_10 rfl kX7_takesNumber_116 (m_isFigure hs hr hTu) rfl rfl (hs _ _ rfl) (by decide) rfl (Nat.le_of_ble_eq_true rfl) ⟨rfl, rfl⟩ ⟨Nat.zero_le _, Nat.zero_le _⟩ ?_
  refine x_if_eq (t := 44) (q := 16) dX7_takesNumber_13 rfl rfl (fun c_13 => ?_) (fun c_13 => ?_)
  · skip
    have hN : fgA t n (b : Int) lo hi = -1 := fg_no hl hh (.inl (b2i_0.mp c_13))
    refine x_ic (q := 45) dX7_takesNumber_44 rfl rfl ?_
    exact x_zret dX7_takesNumber_45 rfl (.inl rfl) rfl (Nat.zero_le _) ⟨b, false, _, rfl, rfl, hsk, (XF.refl v).up70 (.inl rfl) _, up_n _ _ _ (by decide), (fun h => by cases h), fun _ => ⟨hN, by rw [up_at, if_pos rfl]⟩⟩
  · skip
    have h13 := b2i_n0.mp c_13
    have hlt := fig_lt h13
    have hcb : (if b < n then t b else -1) = ltr t n (b : Int) := by rw [if_pos (by omega), ltr_at (by omega)]
    rw [hcb]
    refine x_al_n (q := 17) dX7_takesNumber_16 rfl rfl ?_
    refine x_al_n (q := 18) dX7_takesNumber_17 rfl rfl ?_
    refine x_getIe (q := 21) (z := (b : Int)) dX7_takesNumber_18 rfl fX7_106 (hs _ _ rfl) rfl (by rw [up_at, if_pos rfl]) ?_
    refine x_ic (q := 22) dX7_takesNumber_21 rfl rfl ?_
    refine x_add (q := 23) dX7_takesNumber_22 rfl ⟨by omega, by omega⟩ ?_
    rw [show (b : Int) + 1 = ((b + 1 : Nat) : Int) by omega]
    refine x_VI (q := 26) (ci := 7) dX7_takesNumber_23 rfl kX7_takesNumber_116 (m_isFigure hs hr hTu (x := b + 1)) rfl rfl (hs _ _ rfl) (by decide) rfl (Nat.le_of_ble_eq_true rfl) ⟨rfl, rfl⟩ ⟨Nat.zero_le _, Nat.zero_le _⟩ ?_
    rw [show ((b + 1 : Nat) : Int) = (b : Int) + 1 by omega]
    refine x_if_ne (t := 44) (q := 29) dX7_takesNumber_26 rfl rfl (fun c_26 => ?_) (fun c_26 => ?_)
    · skip
      have hN : fgA t n (b : Int) lo hi = -1 := fg_no hl hh (.inr (.inl (b2i_n0.mp c_26)))
      refine x_ic (q := 45) dX7_takesNumber_44 rfl rfl ?_
      exact x_zret dX7_takesNumber_45 rfl (.inl rfl) rfl (Nat.zero_le _) ⟨b, false, _, rfl, rfl, hsk, (XF.refl v).up70 (.inl rfl) _, up_n _ _ _ (by decide), (fun h => by cases h), fun _ => ⟨hN, by rw [up_at, if_pos rfl]⟩⟩
    · skip
      have h26 := b2i_0.mp c_26
      refine x_il_n (q := 30) dX7_takesNumber_29 rfl rfl ?_
      refine x_bi (q := 32) dX7_takesNumber_30 rfl rfl ?_
      refine x_sub (q := 33) dX7_takesNumber_32 rfl ⟨by omega, by omega⟩ ?_
      refine x_i2l (q := 34) dX7_takesNumber_33 rfl ?_
      refine x_il_n (q := 35) dX7_takesNumber_34 rfl rfl ?_
      refine x_i2l (q := 36) dX7_takesNumber_35 rfl ?_
      refine x_il_n (q := 37) dX7_takesNumber_36 rfl rfl ?_
      refine x_i2l (q := 38) dX7_takesNumber_37 rfl ?_
      refine x_SI (q := 41) dX7_takesNumber_38 rfl kX7_takesNumber_70 (m_in) rfl rfl (Nat.le_of_ble_eq_true rfl) ⟨rfl, rfl⟩ ⟨Nat.zero_le _, Nat.zero_le _⟩ ?_
      refine x_if_ne (t := 46) (q := 44) dX7_takesNumber_41 rfl rfl (fun c_41 => ?_) (fun c_41 => ?_)
      · skip
        have h41 := of_decide_eq_true (b2i_n0.mp c_41)
        have hF := fg_ok (lo := lo) (hi := hi) h13 h26 h41.1 h41.2
        have hfr := fig_rng h13
        refine x_al_n (q := 47) dX7_takesNumber_46 rfl rfl ?_
        refine x_il_n (q := 48) dX7_takesNumber_47 rfl rfl ?_
        refine x_bi (q := 50) dX7_takesNumber_48 rfl rfl ?_
        refine x_sub (q := 51) dX7_takesNumber_50 rfl ⟨by omega, by omega⟩ ?_
        refine x_putI (q := 54) dX7_takesNumber_51 rfl fX7_120 (hs _ _ rfl) (.inl rfl) rfl ?_
        refine x_al_n (q := 55) dX7_takesNumber_54 rfl rfl ?_
        refine x_dup (q := 56) dX7_takesNumber_55 rfl rfl ?_
        refine x_getIe (q := 59) (z := (b : Int)) dX7_takesNumber_56 rfl fX7_106 (hs _ _ rfl) rfl (by rw [up_at, if_neg (by decide), up_at, if_pos rfl]) ?_
        refine x_ic (q := 60) dX7_takesNumber_59 rfl rfl ?_
        refine x_add (q := 61) dX7_takesNumber_60 rfl ⟨by omega, by omega⟩ ?_
        refine x_putI (q := 64) dX7_takesNumber_61 rfl fX7_106 (hs _ _ rfl) (.inl rfl) rfl ?_
        refine x_ic (q := 65) dX7_takesNumber_64 rfl rfl ?_
        exact x_zret dX7_takesNumber_65 rfl (.inr rfl) rfl (Nat.zero_le _) ⟨b, true, _, rfl, rfl, hsk, (((XF.refl v).up70 (.inl rfl) _).up70 (.inr rfl) _).up70 (.inl rfl) _, by rw [up_n _ _ _ (by decide), up_n _ _ _ (by decide), up_n _ _ _ (by decide)], fun _ => ⟨by omega, by omega, by rw [up_at, if_neg (by decide), up_at, if_pos rfl, hF], by rw [up_at, if_pos rfl], by unfold Bd; rw [show ((b + 1 : Nat) : Int) = (b : Int) + 1 by omega, h26]; rfl⟩, (fun h => by cases h)⟩
      · skip
        have h41 := of_decide_eq_false (b2i_0.mp c_41)
        have hN : fgA t n (b : Int) lo hi = -1 := fg_no hl hh (by omega)
        refine x_ic (q := 45) dX7_takesNumber_44 rfl rfl ?_
        exact x_zret dX7_takesNumber_45 rfl (.inl rfl) rfl (Nat.zero_le _) ⟨b, false, _, rfl, rfl, hsk, (XF.refl v).up70 (.inl rfl) _, up_n _ _ _ (by decide), (fun h => by cases h), fun _ => ⟨hN, by rw [up_at, if_pos rfl]⟩⟩
set_option maxHeartbeats 4000000 in
set_option maxRecDepth 100000 in
theorem m_takesBits (hs : ExtM sh) (hr : RokM rf) (hT : TM v t n) (ha : a ≤ n) (hsp : v 70 13 = (a : Int)) : Cv g mX7_takesBits [aR 70] (sh, rf, v) (fun r h1 => ∃ (b : Nat) (z : Bool) (u : Nat → Nat → Int), r = some (aI (b2i z)) ∧ h1 = (sh, rf, u) ∧ SK t n a b ∧ XF v u ∧ (∀ j, j ≠ 1 → j ≠ 2 → u 79 j = v 79 j) ∧ (z = true → figB t n (b : Int) = true ∧ ¬ btA t n (b : Int) (tlen t n (b : Int)) = -1 ∧ u 79 1 = (tlen t n (b : Int) : Int) ∧ u 79 2 = btA t n (b : Int) (tlen t n (b : Int)) ∧ u 70 13 = (b : Int) + (tlen t n (b : Int) : Int) ∧ b + tlen t n (b : Int) ≤ n ∧ Bd t n (b + tlen t n (b : Int))) ∧ (z = false → btA t n (b : Int) (tlen t n (b : Int)) = -1 ∧ u 70 13 = (b : Int))) := by
  have hn := hT.2.1
  refine x_entry (ls := [some (aR 70), none, none, none, none]) rfl rfl (Nat.le_of_ble_eq_true rfl) ?_
  refine x_al_n (q := 1) dX7_takesBits_0 rfl rfl ?_
  refine x_V (q := 4) (ci := 7) dX7_takesBits_1 rfl kX7_takesBits_113 (m_here hs hr hT ha hsp) rfl rfl (hs _ _ rfl) (by decide) rfl (Nat.le_of_ble_eq_true rfl) ⟨rfl, rfl⟩ ⟨Nat.zero_le _, Nat.zero_le _⟩ (fun r1 h1 hp => ?_)
  obtain ⟨b, hsk, rfl, rfl⟩ := hp
  have hbn := hsk.2.1
  have hTu : TM (up v 70 13 (b : Int)) t n := hT.xf ((XF.refl v).up70 (.inl rfl) _)
  refine x_is1 (q := 5) dX7_takesBits_4 rfl rfl ?_
  refine x_ic (q := 6) dX7_takesBits_5 rfl rfl ?_
  refine x_is2 (q := 7) dX7_takesBits_6 rfl rfl ?_
  refine x_ic (q := 8) dX7_takesBits_7 rfl rfl ?_
  refine x_is3 (q := 9) dX7_takesBits_8 rfl rfl ?_
  refine x_ic (q := 10) dX7_takesBits_9 rfl rfl ?_
  refine x_is4 (q := 12) dX7_takesBits_10 rfl rfl ?_
  by_cases hf : figB t n (b : Int) = true
  · skip
    have htl := tl_spec (t := t) (a := b) hn hf
    have htr := tlen_rng t n (b : Int)
    refine x_up (S := fun i => ∀ x : Int, 0 ≤ x → x ≤ 31 → (gB t n b i = true → x = vv t n b i) → Wv g mX7_takesBits 0 0 12 [some (aR 70), some (aI (if b < n then t b else -1)), some (aI (i : Int)), some (aI x), some (aI (b2i (gB t n b i)))] [] (sh, rf, up v 70 13 (b : Int)) (fun r h1 => ∃ (b : Nat) (z : Bool) (u : Nat → Nat → Int), r = some (aI (b2i z)) ∧ h1 = (sh, rf, u) ∧ SK t n a b ∧ XF v u ∧ (∀ j, j ≠ 1 → j ≠ 2 → u 79 j = v 79 j) ∧ (z = true → figB t n (b : Int) = true ∧ ¬ btA t n (b : Int) (tlen t n (b : Int)) = -1 ∧ u 79 1 = (tlen t n (b : Int) : Int) ∧ u 79 2 = btA t n (b : Int) (tlen t n (b : Int)) ∧ u 70 13 = (b : Int) + (tlen t n (b : Int) : Int) ∧ b + tlen t n (b : Int) ≤ n ∧ Bd t n (b + tlen t n (b : Int))) ∧ (z = false → btA t n (b : Int) (tlen t n (b : Int)) = -1 ∧ u 70 13 = (b : Int)))) (tlen t n (b : Int)) ?_ ?_ 0 (Nat.zero_le _) 0 (by decide) (by decide) (fun _ => rfl)
    · intro x hx0 hx1 hxv
      refine x_al_n (q := 13) dX7_takesBits_12 rfl rfl ?_
      refine x_al_n (q := 14) dX7_takesBits_13 rfl rfl ?_
      refine x_getIe (q := 17) (z := (b : Int)) dX7_takesBits_14 rfl fX7_106 (hs _ _ rfl) rfl (by rw [up_at, if_pos rfl]) ?_
      refine x_il_n (q := 18) dX7_takesBits_17 rfl rfl ?_
      refine x_add (q := 19) dX7_takesBits_18 rfl ⟨by omega, by omega⟩ ?_
      rw [show (b : Int) + (tlen t n (b : Int) : Int) = ((b + tlen t n (b : Int) : Nat) : Int) by omega]
      refine x_VI (q := 22) (ci := 7) dX7_takesBits_19 rfl kX7_takesBits_116 (m_isFigure hs hr hTu (x := b + tlen t n (b : Int))) rfl rfl (hs _ _ rfl) (by decide) rfl (Nat.le_of_ble_eq_true rfl) ⟨rfl, rfl⟩ ⟨Nat.zero_le _, Nat.zero_le _⟩ ?_
      rw [show ((b + tlen t n (b : Int) : Nat) : Int) = (b : Int) + (tlen t n (b : Int) : Int) by omega, htl.2]
      refine x_if_eq (t := 92) (q := 25) dX7_takesBits_22 rfl rfl (fun c_22 => ?_) (fun c_22 => ?_)
      · skip
        refine x_il (q := 94) dX7_takesBits_92 rfl rfl ?_
        refine x_if_eq (t := 102) (q := 97) dX7_takesBits_94 rfl rfl (fun c_94 => ?_) (fun c_94 => ?_)
        · skip
          have hN := bt_no hn hf (.inl (b2i_0.mp c_94))
          refine x_ic (q := 103) dX7_takesBits_102 rfl rfl ?_
          exact x_zret dX7_takesBits_103 rfl (.inl rfl) rfl (Nat.zero_le _) ⟨b, false, _, rfl, rfl, hsk, (XF.refl v).up70 (.inl rfl) _, fun j _ _ => by rw [up_n _ _ _ (by decide)], (fun h => by cases h), fun _ => ⟨hN, by rw [up_at, if_pos rfl]⟩⟩
        · skip
          have hg := b2i_n0.mp c_94
          refine x_il_n (q := 98) dX7_takesBits_97 rfl rfl ?_
          refine x_ic (q := 99) dX7_takesBits_98 rfl rfl ?_
          refine x_ic_ge (t := 104) (q := 102) dX7_takesBits_99 rfl rfl (fun c_99 => ?_) (fun c_99 => ?_)
          · skip
            have hOK := bt_ok hn hf hg (show 2 ≤ tlen t n (b : Int) by omega)
            have hxe := hxv hg
            have hlast := fig_lt (htl.1 (tlen t n (b : Int) - 1) (by omega))
            refine x_al_n (q := 105) dX7_takesBits_104 rfl rfl ?_
            refine x_getR (q := 108) (o := some (79)) dX7_takesBits_105 rfl fX7_35 (hs _ _ rfl) rfl (hr _ _ rfl) ?_
            refine x_ic (q := 109) dX7_takesBits_108 rfl rfl ?_
            refine x_il_n (q := 110) dX7_takesBits_109 rfl rfl ?_
            refine x_iast (q := 111) dX7_takesBits_110 rfl (hs _ _ rfl) (by omega) (by omega) ?_
            refine x_al_n (q := 112) dX7_takesBits_111 rfl rfl ?_
            refine x_getR (q := 115) (o := some (79)) dX7_takesBits_112 rfl fX7_35 (hs _ _ rfl) rfl (hr _ _ rfl) ?_
            refine x_ic (q := 116) dX7_takesBits_115 rfl rfl ?_
            refine x_il_n (q := 117) dX7_takesBits_116 rfl rfl ?_
            refine x_iast (q := 118) dX7_takesBits_117 rfl (hs _ _ rfl) (by omega) (by omega) ?_
            refine x_al_n (q := 119) dX7_takesBits_118 rfl rfl ?_
            refine x_dup (q := 120) dX7_takesBits_119 rfl rfl ?_
            refine x_getIe (q := 123) (z := (b : Int)) dX7_takesBits_120 rfl fX7_106 (hs _ _ rfl) rfl (by rw [up_n _ _ _ (by decide), up_n _ _ _ (by decide), up_at, if_pos rfl]) ?_
            refine x_il_n (q := 124) dX7_takesBits_123 rfl rfl ?_
            refine x_add (q := 125) dX7_takesBits_124 rfl ⟨by omega, by omega⟩ ?_
            refine x_putI (q := 128) dX7_takesBits_125 rfl fX7_106 (hs _ _ rfl) (.inl rfl) rfl ?_
            refine x_ic (q := 129) dX7_takesBits_128 rfl rfl ?_
            exact x_zret dX7_takesBits_129 rfl (.inr rfl) rfl (Nat.zero_le _) ⟨b, true, _, rfl, rfl, hsk, ((((XF.refl v).up70 (.inl rfl) _).up79 _ _).up79 _ _).up70 (.inl rfl) _, fun j h1 h2 => by rw [up_n _ _ _ (by decide), up_at, if_neg (show ¬ j = (2 : Int).toNat from h2), up_at, if_neg (show ¬ j = (1 : Int).toNat from h1), up_n _ _ _ (by decide)], fun _ => ⟨hf, hOK.2, by rw [up_n _ _ _ (by decide), up_at, if_neg (by decide), up_at, if_pos (by decide)], by rw [up_n _ _ _ (by decide), up_at, if_pos (by decide), hxe]; exact hOK.1.symm, by rw [up_at, if_pos rfl], by omega, by unfold Bd; rw [show ((b + tlen t n (b : Int) : Nat) : Int) = (b : Int) + (tlen t n (b : Int) : Int) by omega, htl.2]; rfl⟩, (fun h => by cases h)⟩
          · skip
            have hN := bt_no hn hf (.inr (show tlen t n (b : Int) < 2 by omega))
            refine x_ic (q := 103) dX7_takesBits_102 rfl rfl ?_
            exact x_zret dX7_takesBits_103 rfl (.inl rfl) rfl (Nat.zero_le _) ⟨b, false, _, rfl, rfl, hsk, (XF.refl v).up70 (.inl rfl) _, fun j _ _ => by rw [up_n _ _ _ (by decide)], (fun h => by cases h), fun _ => ⟨hN, by rw [up_at, if_pos rfl]⟩⟩
      · skip
        exact absurd rfl c_22
    · intro i hi ih x hx0 hx1 hxv
      have hfi := htl.1 i hi
      have hfl := fig_lt hfi
      have hfr := fig_rng hfi
      refine x_al_n (q := 13) dX7_takesBits_12 rfl rfl ?_
      refine x_al_n (q := 14) dX7_takesBits_13 rfl rfl ?_
      refine x_getIe (q := 17) (z := (b : Int)) dX7_takesBits_14 rfl fX7_106 (hs _ _ rfl) rfl (by rw [up_at, if_pos rfl]) ?_
      refine x_il_n (q := 18) dX7_takesBits_17 rfl rfl ?_
      refine x_add (q := 19) dX7_takesBits_18 rfl ⟨by omega, by omega⟩ ?_
      rw [show (b : Int) + (i : Int) = ((b + i : Nat) : Int) by omega]
      refine x_VI (q := 22) (ci := 7) dX7_takesBits_19 rfl kX7_takesBits_116 (m_isFigure hs hr hTu (x := b + i)) rfl rfl (hs _ _ rfl) (by decide) rfl (Nat.le_of_ble_eq_true rfl) ⟨rfl, rfl⟩ ⟨Nat.zero_le _, Nat.zero_le _⟩ ?_
      rw [show ((b + i : Nat) : Int) = (b : Int) + (i : Int) by omega]
      rw [hfi]
      refine x_if_eq (t := 92) (q := 25) dX7_takesBits_22 rfl rfl (fun c_22 => ?_) (fun c_22 => ?_)
      · skip
        exact absurd c_22 (by decide)
      · skip
        refine x_il (q := 27) dX7_takesBits_25 rfl rfl ?_
        refine x_if_eq (t := 55) (q := 30) dX7_takesBits_27 rfl rfl (fun c_27 => ?_) (fun c_27 => ?_)
        · skip
          have hg0 := b2i_0.mp c_27
          have hG : gB t n b (i + 1) = false := by unfold gB at hg0 ⊢; rcases Bool.and_eq_false_iff.mp hg0 with q | q; rw [decide_eq_false (by have := of_decide_eq_false q; omega)]; rfl; show (_ && (alN _ i && _)) = false; rw [q]; simp
          refine x_ic (q := 56) dX7_takesBits_55 rfl rfl ?_
          refine x_is4 (q := 58) dX7_takesBits_56 rfl rfl ?_
          refine x_il (q := 60) dX7_takesBits_58 rfl rfl ?_
          refine x_if_eq (t := 84) (q := 63) dX7_takesBits_60 rfl rfl (fun c_60 => ?_) (fun c_60 => ?_)
          · skip
            refine x_il_n (q := 85) dX7_takesBits_84 rfl rfl ?_
            refine x_is3 (q := 86) dX7_takesBits_85 rfl rfl ?_
            refine x_ii2 (q := 89) dX7_takesBits_86 rfl rfl ⟨by omega, by omega⟩ ?_
            refine x_goto (t := 12) dX7_takesBits_89 rfl ?_
            first
            | exact absurd hG (by decide)
            | (have h9 := ih x hx0 hx1 (fun h => by rw [hG] at h; cases h)
               rw [hG] at h9
               exact h9)
            | (have h9 := ih _ hvr.1 hvr.2 (fun _ => rfl)
               rw [hG, hvs, show x * 2 + (ltr t n ((b : Int) + (i : Int)) - 48) = 2 * x + ltr t n ((b : Int) + (i : Int)) - 48 by omega] at h9
               exact h9)
          · skip
            exact absurd c_60 (by decide)
        · skip
          have hg0 := b2i_n0.mp c_27
          refine x_al_n (q := 31) dX7_takesBits_30 rfl rfl ?_
          refine x_getR (q := 34) (o := some (76)) dX7_takesBits_31 rfl fX7_26 (hs _ _ rfl) rfl (hr _ _ rfl) ?_
          refine x_al_n (q := 35) dX7_takesBits_34 rfl rfl ?_
          refine x_getIe (q := 38) (z := (b : Int)) dX7_takesBits_35 rfl fX7_106 (hs _ _ rfl) rfl (by rw [up_at, if_pos rfl]) ?_
          refine x_il_n (q := 39) dX7_takesBits_38 rfl rfl ?_
          refine x_add (q := 40) dX7_takesBits_39 rfl ⟨by omega, by omega⟩ ?_
          refine x_ialde (q := 41) (z := ltr t n ((b : Int) + (i : Int))) dX7_takesBits_40 rfl (hs _ _ rfl) (by omega) (by omega) (by rw [up_n _ _ _ (by decide), show ((b : Int) + (i : Int)).toNat = b + i by omega, hT.2.2.1 (b + i) (by omega), ← ltr_at (t := t) (show b + i < n by omega), show ((b + i : Nat) : Int) = (b : Int) + (i : Int) by omega]) ?_
          refine x_bi (q := 43) dX7_takesBits_41 rfl rfl ?_
          refine x_ic_ge (t := 55) (q := 46) dX7_takesBits_43 rfl rfl (fun c_43 => ?_) (fun c_43 => ?_)
          · skip
            have hG : gB t n b (i + 1) = false := by show (_ && (_ && decide (ltr t n ((b : Int) + (i : Int)) < 50))) = false; rw [decide_eq_false (p := ltr t n ((b : Int) + (i : Int)) < 50) (by omega)]; simp
            refine x_ic (q := 56) dX7_takesBits_55 rfl rfl ?_
            refine x_is4 (q := 58) dX7_takesBits_56 rfl rfl ?_
            refine x_il (q := 60) dX7_takesBits_58 rfl rfl ?_
            refine x_if_eq (t := 84) (q := 63) dX7_takesBits_60 rfl rfl (fun c_60 => ?_) (fun c_60 => ?_)
            · skip
              refine x_il_n (q := 85) dX7_takesBits_84 rfl rfl ?_
              refine x_is3 (q := 86) dX7_takesBits_85 rfl rfl ?_
              refine x_ii2 (q := 89) dX7_takesBits_86 rfl rfl ⟨by omega, by omega⟩ ?_
              refine x_goto (t := 12) dX7_takesBits_89 rfl ?_
              first
              | exact absurd hG (by decide)
              | (have h9 := ih x hx0 hx1 (fun h => by rw [hG] at h; cases h)
                 rw [hG] at h9
                 exact h9)
              | (have h9 := ih _ hvr.1 hvr.2 (fun _ => rfl)
                 rw [hG, hvs, show x * 2 + (ltr t n ((b : Int) + (i : Int)) - 48) = 2 * x + ltr t n ((b : Int) + (i : Int)) - 48 by omega] at h9
                 exact h9)
            · skip
              exact absurd c_60 (by decide)
          · skip
            refine x_il_n (q := 47) dX7_takesBits_46 rfl rfl ?_
            refine x_ic (q := 48) dX7_takesBits_47 rfl rfl ?_
            refine x_ic_ge (t := 55) (q := 51) dX7_takesBits_48 rfl rfl (fun c_48 => ?_) (fun c_48 => ?_)
            · skip
              have hG : gB t n b (i + 1) = false := by show (decide (i + 1 ≤ 5) && _) = false; rw [decide_eq_false (p := i + 1 ≤ 5) (by omega)]; rfl
              refine x_ic (q := 56) dX7_takesBits_55 rfl rfl ?_
              refine x_is4 (q := 58) dX7_takesBits_56 rfl rfl ?_
              refine x_il (q := 60) dX7_takesBits_58 rfl rfl ?_
              refine x_if_eq (t := 84) (q := 63) dX7_takesBits_60 rfl rfl (fun c_60 => ?_) (fun c_60 => ?_)
              · skip
                refine x_il_n (q := 85) dX7_takesBits_84 rfl rfl ?_
                refine x_is3 (q := 86) dX7_takesBits_85 rfl rfl ?_
                refine x_ii2 (q := 89) dX7_takesBits_86 rfl rfl ⟨by omega, by omega⟩ ?_
                refine x_goto (t := 12) dX7_takesBits_89 rfl ?_
                first
                | exact absurd hG (by decide)
                | (have h9 := ih x hx0 hx1 (fun h => by rw [hG] at h; cases h)
                   rw [hG] at h9
                   exact h9)
                | (have h9 := ih _ hvr.1 hvr.2 (fun _ => rfl)
                   rw [hG, hvs, show x * 2 + (ltr t n ((b : Int) + (i : Int)) - 48) = 2 * x + ltr t n ((b : Int) + (i : Int)) - 48 by omega] at h9
                   exact h9)
              · skip
                exact absurd c_60 (by decide)
            · skip
              have hG : gB t n b (i + 1) = true := by unfold gB at hg0; rw [Bool.and_eq_true] at hg0; show (decide (i + 1 ≤ 5) && (alN _ i && decide (ltr t n ((b : Int) + (i : Int)) < 50))) = true; rw [decide_eq_true (p := i + 1 ≤ 5) (by omega), decide_eq_true (p := ltr t n ((b : Int) + (i : Int)) < 50) (by omega), hg0.2]; rfl
              have hxe := hxv hg0
              have hvr : 0 ≤ vv t n b (i + 1) ∧ vv t n b (i + 1) ≤ 31 := by
                have hg1 := hG
                unfold gB at hg1
                rw [Bool.and_eq_true] at hg1
                have h9 := vv_rng (t := t) (n := n) (a := b) (b := i + 1) (fun j hj => ⟨htl.1 j (by omega), of_decide_eq_true (alN_t hg1.2 j hj)⟩) (i + 1) (Nat.le_refl _)
                have h10 := pw_le (k := i + 1) (n := 5) (by omega)
                have e5 : (2 : Int) ^ 5 = 32 := by decide
                omega
              have hvs : vv t n b (i + 1) = x * 2 + (ltr t n ((b : Int) + (i : Int)) - 48) := by rw [hxe]; rfl
              refine x_ic (q := 52) dX7_takesBits_51 rfl rfl ?_
              refine x_goto (t := 56) dX7_takesBits_52 rfl ?_
              refine x_is4 (q := 58) dX7_takesBits_56 rfl rfl ?_
              refine x_il (q := 60) dX7_takesBits_58 rfl rfl ?_
              refine x_if_eq (t := 84) (q := 63) dX7_takesBits_60 rfl rfl (fun c_60 => ?_) (fun c_60 => ?_)
              · skip
                exact absurd c_60 (by decide)
              · skip
                refine x_ic (q := 64) dX7_takesBits_63 rfl rfl ?_
                refine x_il_n (q := 65) dX7_takesBits_64 rfl rfl ?_
                refine x_mul (q := 66) dX7_takesBits_65 rfl ⟨by omega, by omega⟩ ?_
                refine x_al_n (q := 67) dX7_takesBits_66 rfl rfl ?_
                refine x_getR (q := 70) (o := some (76)) dX7_takesBits_67 rfl fX7_26 (hs _ _ rfl) rfl (hr _ _ rfl) ?_
                refine x_al_n (q := 71) dX7_takesBits_70 rfl rfl ?_
                refine x_getIe (q := 74) (z := (b : Int)) dX7_takesBits_71 rfl fX7_106 (hs _ _ rfl) rfl (by rw [up_at, if_pos rfl]) ?_
                refine x_il_n (q := 75) dX7_takesBits_74 rfl rfl ?_
                refine x_add (q := 76) dX7_takesBits_75 rfl ⟨by omega, by omega⟩ ?_
                refine x_ialde (q := 77) (z := ltr t n ((b : Int) + (i : Int))) dX7_takesBits_76 rfl (hs _ _ rfl) (by omega) (by omega) (by rw [up_n _ _ _ (by decide), show ((b : Int) + (i : Int)).toNat = b + i by omega, hT.2.2.1 (b + i) (by omega), ← ltr_at (t := t) (show b + i < n by omega), show ((b + i : Nat) : Int) = (b : Int) + (i : Int) by omega]) ?_
                refine x_add (q := 78) dX7_takesBits_77 rfl ⟨by omega, by omega⟩ ?_
                refine x_bi (q := 80) dX7_takesBits_78 rfl rfl ?_
                refine x_sub (q := 81) dX7_takesBits_80 rfl ⟨by omega, by omega⟩ ?_
                refine x_goto (t := 85) dX7_takesBits_81 rfl ?_
                refine x_is3 (q := 86) dX7_takesBits_85 rfl rfl ?_
                refine x_ii2 (q := 89) dX7_takesBits_86 rfl rfl ⟨by omega, by omega⟩ ?_
                refine x_goto (t := 12) dX7_takesBits_89 rfl ?_
                first
                | exact absurd hG (by decide)
                | (have h9 := ih x hx0 hx1 (fun h => by rw [hG] at h; cases h)
                   rw [hG] at h9
                   exact h9)
                | (have h9 := ih _ hvr.1 hvr.2 (fun _ => rfl)
                   rw [hG, hvs, show x * 2 + (ltr t n ((b : Int) + (i : Int)) - 48) = 2 * x + ltr t n ((b : Int) + (i : Int)) - 48 by omega] at h9
                   exact h9)
  · have hf : figB t n (b : Int) = false := by simpa using hf
    have hN : btA t n (b : Int) (tlen t n (b : Int)) = -1 := by rw [tlen_1 (by rw [hf]; rfl)]; rfl
    refine x_al_n (q := 13) dX7_takesBits_12 rfl rfl ?_
    refine x_al_n (q := 14) dX7_takesBits_13 rfl rfl ?_
    refine x_getIe (q := 17) (z := (b : Int)) dX7_takesBits_14 rfl fX7_106 (hs _ _ rfl) rfl (by rw [up_at, if_pos rfl]) ?_
    refine x_il_n (q := 18) dX7_takesBits_17 rfl rfl ?_
    refine x_add (q := 19) dX7_takesBits_18 rfl ⟨by omega, by omega⟩ ?_
    rw [show (b : Int) + 0 = ((b + 0 : Nat) : Int) by omega]
    refine x_VI (q := 22) (ci := 7) dX7_takesBits_19 rfl kX7_takesBits_116 (m_isFigure hs hr hTu (x := b + 0)) rfl rfl (hs _ _ rfl) (by decide) rfl (Nat.le_of_ble_eq_true rfl) ⟨rfl, rfl⟩ ⟨Nat.zero_le _, Nat.zero_le _⟩ ?_
    rw [show ((b + 0 : Nat) : Int) = (b : Int) by omega, hf]
    refine x_if_eq (t := 92) (q := 25) dX7_takesBits_22 rfl rfl (fun c_22 => ?_) (fun c_22 => ?_)
    · skip
      refine x_il (q := 94) dX7_takesBits_92 rfl rfl ?_
      refine x_if_eq (t := 102) (q := 97) dX7_takesBits_94 rfl rfl (fun c_94 => ?_) (fun c_94 => ?_)
      · skip
        exact absurd c_94 (by decide)
      · skip
        refine x_il_n (q := 98) dX7_takesBits_97 rfl rfl ?_
        refine x_ic (q := 99) dX7_takesBits_98 rfl rfl ?_
        refine x_ic_ge (t := 104) (q := 102) dX7_takesBits_99 rfl rfl (fun c_99 => ?_) (fun c_99 => ?_)
        · skip
          exact absurd c_99 (by decide)
        · skip
          refine x_ic (q := 103) dX7_takesBits_102 rfl rfl ?_
          exact x_zret dX7_takesBits_103 rfl (.inl rfl) rfl (Nat.zero_le _) ⟨b, false, _, rfl, rfl, hsk, (XF.refl v).up70 (.inl rfl) _, fun j _ _ => by rw [up_n _ _ _ (by decide)], (fun h => by cases h), fun _ => ⟨hN, by rw [up_at, if_pos rfl]⟩⟩
    · skip
      exact absurd rfl c_22
end MOT

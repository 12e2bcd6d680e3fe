/-! ===== Text ===== -/
def TX (v : Nat → Nat → Int) (t : Nat → Int) (n : Nat) : Prop := v 1 1 = (n : Int) ∧ n ≤ 60 ∧ ∀ i, i < n → v 2 i = t i
def TR (t : Nat → Int) (n : Nat) : Prop := ∀ i, i < n → 0 ≤ t i ∧ t i ≤ 255
def StOk (v : Nat → Nat → Int) (s : Sg) : Prop := v 1 2 = (s.1 : Int) ∧ v 1 3 = b2i s.2.1 ∧ v 1 4 = b2i s.2.2.1 ∧ banOf v 3 = s.2.2.2
theorem ltr_rng {t : Nat → Int} {n : Nat} (h : TR t n) (a : Int) : 0 ≤ ltr t n a ∧ ltr t n a ≤ 255 := by
  unfold ltr
  split
  · exact h _ (by omega)
  · omega
theorem TX.keep {v u : Nat → Nat → Int} {t : Nat → Int} {n : Nat} (h : TX v t n) (h1 : u 1 1 = v 1 1) (h2 : u 2 = v 2) : TX u t n := ⟨by rw [h1]; exact h.1, h.2.1, fun i hi => by rw [h2]; exact h.2.2 i hi⟩
theorem tlk_rng {t : Nat → Int} {n : Nat} {a : Int} : ∀ k l, l ≤ tlk t n a k l ∧ tlk t n a k l ≤ l + k
  | 0, l => by simp [tlk]
  | k + 1, l => by
    have := tlk_rng (t := t) (n := n) (a := a) k (l + 1)
    unfold tlk
    split <;> omega
theorem tlen_rng (t : Nat → Int) (n : Nat) (a : Int) : 1 ≤ tlen t n a ∧ tlen t n a ≤ 60 := by
  have := tlk_rng (t := t) (n := n) (a := a) 59 1
  unfold tlen
  omega
section TXT
variable {g : GL} {sh : List (Nat × Nat)} {rf : Nat → Nat → Option Nat} {v : Nat → Nat → Int} {t : Nat → Int} {n : Nat}

set_option maxHeartbeats 4000000 in
set_option maxRecDepth 100000 in
theorem c_textAppend (hs : Ext sh) (hr : Rok rf) {z : Int} (h0 : 0 ≤ v 1 1) (h1 : v 1 1 < 60) : Cv g mX5_append [aR 1, aI z] (sh, rf, v) (retV (sh, rf, up (up v 2 (v 1 1).toNat z) 1 1 (v 1 1 + 1))) := by
  refine x_entry (ls := [some (aR 1), some (aI z)]) rfl rfl (Nat.le_of_ble_eq_true rfl) ?_
  refine x_al_n (q := 1) dX5_append_0 rfl rfl ?_
  refine x_getI (q := 4) dX5_append_1 rfl fX5_15 (hs _ _ rfl) rfl ?_
  refine x_if_lt (t := 36) (q := 7) dX5_append_4 rfl rfl (fun c_4 => ?_) (fun c_4 => ?_)
  · skip
    exact absurd c_4 (by omega)
  · skip
    refine x_al_n (q := 8) dX5_append_7 rfl rfl ?_
    refine x_getI (q := 11) dX5_append_8 rfl fX5_15 (hs _ _ rfl) rfl ?_
    refine x_bi (q := 13) dX5_append_11 rfl rfl ?_
    refine x_ic_ge (t := 36) (q := 16) dX5_append_13 rfl rfl (fun c_13 => ?_) (fun c_13 => ?_)
    · skip
      exact absurd c_13 (by omega)
    · skip
      refine x_al_n (q := 17) dX5_append_16 rfl rfl ?_
      refine x_getR (q := 20) (o := some (2)) dX5_append_17 rfl fX5_9 (hs _ _ rfl) rfl (hr _ _ _ rfl) ?_
      refine x_al_n (q := 21) dX5_append_20 rfl rfl ?_
      refine x_getI (q := 24) dX5_append_21 rfl fX5_15 (hs _ _ rfl) rfl ?_
      refine x_il_n (q := 25) dX5_append_24 rfl rfl ?_
      refine x_iast (q := 26) dX5_append_25 rfl (hs _ _ rfl) (by omega) (by omega) ?_
      refine x_al_n (q := 27) dX5_append_26 rfl rfl ?_
      refine x_dup (q := 28) dX5_append_27 rfl rfl ?_
      refine x_getIe (q := 31) (z := v 1 1) dX5_append_28 rfl fX5_15 (hs _ _ rfl) rfl (by rw [up_n _ _ _ (by decide)]) ?_
      refine x_ic (q := 32) dX5_append_31 rfl rfl ?_
      refine x_add (q := 33) dX5_append_32 rfl ⟨by omega, by omega⟩ ?_
      refine x_putI (q := 36) dX5_append_33 rfl fX5_15 (hs _ _ rfl) (.inl rfl) rfl ?_
      exact x_vret dX5_append_36 rfl rfl (Nat.zero_le _) (by exact ⟨rfl, rfl⟩)
set_option maxHeartbeats 4000000 in
set_option maxRecDepth 100000 in
theorem c_letterAt (hs : Ext sh) (hr : Rok rf) {a : Int} (hx : TX v t n) : Cv g mX5_letterAt [aR 1, aI a] (sh, rf, v) (retI (ltr t n a) (sh, rf, v)) := by
  obtain ⟨hx1, hx2, hx3⟩ := hx
  refine x_entry (ls := [some (aR 1), some (aI a)]) rfl rfl (Nat.le_of_ble_eq_true rfl) ?_
  refine x_il_n (q := 1) dX5_letterAt_0 rfl rfl ?_
  refine x_if_lt (t := 18) (q := 4) dX5_letterAt_1 rfl rfl (fun c_1 => ?_) (fun c_1 => ?_)
  · skip
    refine x_bi (q := 20) dX5_letterAt_18 rfl rfl ?_
    refine x_goto (t := 29) dX5_letterAt_20 rfl ?_
    exact x_iret dX5_letterAt_29 rfl rfl (Nat.zero_le _) (retI_mk (by first | (rw [ltr, if_neg (by omega)]; done) | (rw [ltr, if_pos (by omega)])))
  · skip
    refine x_il_n (q := 5) dX5_letterAt_4 rfl rfl ?_
    refine x_al_n (q := 6) dX5_letterAt_5 rfl rfl ?_
    refine x_getIe (q := 9) (z := (n : Int)) dX5_letterAt_6 rfl fX5_15 (hs _ _ rfl) rfl (hx1) ?_
    refine x_ic_ge (t := 18) (q := 12) dX5_letterAt_9 rfl rfl (fun c_9 => ?_) (fun c_9 => ?_)
    · skip
      refine x_bi (q := 20) dX5_letterAt_18 rfl rfl ?_
      refine x_goto (t := 29) dX5_letterAt_20 rfl ?_
      exact x_iret dX5_letterAt_29 rfl rfl (Nat.zero_le _) (retI_mk (by first | (rw [ltr, if_neg (by omega)]; done) | (rw [ltr, if_pos (by omega)])))
    · skip
      refine x_il_n (q := 13) dX5_letterAt_12 rfl rfl ?_
      refine x_bi (q := 15) dX5_letterAt_13 rfl rfl ?_
      refine x_ic_lt (t := 23) (q := 18) dX5_letterAt_15 rfl rfl (fun c_15 => ?_) (fun c_15 => ?_)
      · skip
        refine x_al_n (q := 24) dX5_letterAt_23 rfl rfl ?_
        refine x_getR (q := 27) (o := some (2)) dX5_letterAt_24 rfl fX5_9 (hs _ _ rfl) rfl (hr _ _ _ rfl) ?_
        refine x_il_n (q := 28) dX5_letterAt_27 rfl rfl ?_
        refine x_ialde (q := 29) (z := t a.toNat) dX5_letterAt_28 rfl (hs _ _ rfl) (by omega) (by omega) (hx3 _ (by omega)) ?_
        exact x_iret dX5_letterAt_29 rfl rfl (Nat.zero_le _) (retI_mk (by first | (rw [ltr, if_neg (by omega)]; done) | (rw [ltr, if_pos (by omega)])))
      · skip
        exact absurd (by omega) c_15
set_option maxHeartbeats 4000000 in
set_option maxRecDepth 100000 in
theorem c_isFigure (hs : Ext sh) (hr : Rok rf) {a : Int} (hx : TX v t n) : Cv g mX5_isFigure [aR 1, aI a] (sh, rf, v) (retI (b2i (figB t n a)) (sh, rf, v)) := by
  refine x_entry (ls := [some (aR 1), some (aI a), none]) rfl rfl (Nat.le_of_ble_eq_true rfl) ?_
  refine x_al_n (q := 1) dX5_isFigure_0 rfl rfl ?_
  refine x_il_n (q := 2) dX5_isFigure_1 rfl rfl ?_
  refine x_VI (q := 5) (ci := 5) dX5_isFigure_2 rfl kX5_isFigure_42 (c_letterAt hs hr hx) rfl rfl (hs _ _ rfl) (by decide) rfl (Nat.le_of_ble_eq_true rfl) ⟨rfl, rfl⟩ ⟨Nat.zero_le _, Nat.zero_le _⟩ ?_
  refine x_is2 (q := 6) dX5_isFigure_5 rfl rfl ?_
  refine x_il_n (q := 7) dX5_isFigure_6 rfl rfl ?_
  refine x_bi (q := 9) dX5_isFigure_7 rfl rfl ?_
  refine x_ic_lt (t := 22) (q := 12) dX5_isFigure_9 rfl rfl (fun c_9 => ?_) (fun c_9 => ?_)
  · skip
    refine x_ic (q := 23) dX5_isFigure_22 rfl rfl ?_
    exact x_zret dX5_isFigure_23 rfl (by first | exact .inl rfl | exact .inr rfl | exact b2i_01 _) rfl (Nat.zero_le _) (retI_mk (by first | (rw [figB, decide_eq_true ⟨by omega, by omega⟩]; rfl) | (rw [figB, decide_eq_false (by omega)]; rfl)))
  · skip
    refine x_il_n (q := 13) dX5_isFigure_12 rfl rfl ?_
    refine x_bi (q := 15) dX5_isFigure_13 rfl rfl ?_
    refine x_ic_gt (t := 22) (q := 18) dX5_isFigure_15 rfl rfl (fun c_15 => ?_) (fun c_15 => ?_)
    · skip
      refine x_ic (q := 23) dX5_isFigure_22 rfl rfl ?_
      exact x_zret dX5_isFigure_23 rfl (by first | exact .inl rfl | exact .inr rfl | exact b2i_01 _) rfl (Nat.zero_le _) (retI_mk (by first | (rw [figB, decide_eq_true ⟨by omega, by omega⟩]; rfl) | (rw [figB, decide_eq_false (by omega)]; rfl)))
    · skip
      refine x_ic (q := 19) dX5_isFigure_18 rfl rfl ?_
      refine x_goto (t := 23) dX5_isFigure_19 rfl ?_
      exact x_zret dX5_isFigure_23 rfl (by first | exact .inl rfl | exact .inr rfl | exact b2i_01 _) rfl (Nat.zero_le _) (retI_mk (by first | (rw [figB, decide_eq_true ⟨by omega, by omega⟩]; rfl) | (rw [figB, decide_eq_false (by omega)]; rfl)))
set_option maxHeartbeats 4000000 in
set_option maxRecDepth 100000 in
theorem c_isTokenStart (hs : Ext sh) (hr : Rok rf) {a : Int} (ha0 : -1000 ≤ a) (ha1 : a ≤ 1000) (hx : TX v t n) : Cv g mX5_isTokenStart [aR 1, aI a] (sh, rf, v) (retI (b2i (tokB t n a)) (sh, rf, v)) := by
  refine x_entry (ls := [some (aR 1), some (aI a)]) rfl rfl (Nat.le_of_ble_eq_true rfl) ?_
  refine x_al_n (q := 1) dX5_isTokenStart_0 rfl rfl ?_
  refine x_il_n (q := 2) dX5_isTokenStart_1 rfl rfl ?_
  refine x_VI (q := 5) (ci := 5) dX5_isTokenStart_2 rfl kX5_isTokenStart_42 (c_letterAt hs hr hx) rfl rfl (hs _ _ rfl) (by decide) rfl (Nat.le_of_ble_eq_true rfl) ⟨rfl, rfl⟩ ⟨Nat.zero_le _, Nat.zero_le _⟩ ?_
  refine x_bi (q := 7) dX5_isTokenStart_5 rfl rfl ?_
  refine x_ic_eq (t := 32) (q := 10) dX5_isTokenStart_7 rfl rfl (fun c_7 => ?_) (fun c_7 => ?_)
  · skip
    have hG : tokB t n a = false := by unfold tokB; simp [c_7]
    refine x_ic (q := 33) dX5_isTokenStart_32 rfl rfl ?_
    exact x_zret dX5_isTokenStart_33 rfl (by first | exact .inl rfl | exact .inr rfl | exact b2i_01 _) rfl (Nat.zero_le _) (retI_mk (by rw [hG]; rfl))
  · skip
    refine x_al_n (q := 11) dX5_isTokenStart_10 rfl rfl ?_
    refine x_il_n (q := 12) dX5_isTokenStart_11 rfl rfl ?_
    refine x_VI (q := 15) (ci := 5) dX5_isTokenStart_12 rfl kX5_isTokenStart_46 (c_isFigure hs hr hx) rfl rfl (hs _ _ rfl) (by decide) rfl (Nat.le_of_ble_eq_true rfl) ⟨rfl, rfl⟩ ⟨Nat.zero_le _, Nat.zero_le _⟩ ?_
    refine x_if_eq (t := 28) (q := 18) dX5_isTokenStart_15 rfl rfl (fun c_15 => ?_) (fun c_15 => ?_)
    · skip
      have hG : tokB t n a = true := by unfold tokB; rw [b2i_0.mp c_15]; simp [c_7]
      refine x_ic (q := 29) dX5_isTokenStart_28 rfl rfl ?_
      refine x_goto (t := 33) dX5_isTokenStart_29 rfl ?_
      exact x_zret dX5_isTokenStart_33 rfl (by first | exact .inl rfl | exact .inr rfl | exact b2i_01 _) rfl (Nat.zero_le _) (retI_mk (by rw [hG]; rfl))
    · skip
      refine x_al_n (q := 19) dX5_isTokenStart_18 rfl rfl ?_
      refine x_il_n (q := 20) dX5_isTokenStart_19 rfl rfl ?_
      refine x_ic (q := 21) dX5_isTokenStart_20 rfl rfl ?_
      refine x_sub (q := 22) dX5_isTokenStart_21 rfl ⟨by omega, by omega⟩ ?_
      refine x_VI (q := 25) (ci := 5) dX5_isTokenStart_22 rfl kX5_isTokenStart_46 (c_isFigure hs hr hx) rfl rfl (hs _ _ rfl) (by decide) rfl (Nat.le_of_ble_eq_true rfl) ⟨rfl, rfl⟩ ⟨Nat.zero_le _, Nat.zero_le _⟩ ?_
      refine x_if_ne (t := 32) (q := 28) dX5_isTokenStart_25 rfl rfl (fun c_25 => ?_) (fun c_25 => ?_)
      · skip
        have hG : tokB t n a = false := by unfold tokB; rw [b2i_n0.mp c_15, b2i_n0.mp c_25]; simp
        refine x_ic (q := 33) dX5_isTokenStart_32 rfl rfl ?_
        exact x_zret dX5_isTokenStart_33 rfl (by first | exact .inl rfl | exact .inr rfl | exact b2i_01 _) rfl (Nat.zero_le _) (retI_mk (by rw [hG]; rfl))
      · skip
        have hG : tokB t n a = true := by unfold tokB; rw [b2i_0.mp c_25]; simp [c_7]
        refine x_ic (q := 29) dX5_isTokenStart_28 rfl rfl ?_
        refine x_goto (t := 33) dX5_isTokenStart_29 rfl ?_
        exact x_zret dX5_isTokenStart_33 rfl (by first | exact .inl rfl | exact .inr rfl | exact b2i_01 _) rfl (Nat.zero_le _) (retI_mk (by rw [hG]; rfl))
set_option maxHeartbeats 4000000 in
set_option maxRecDepth 100000 in
theorem c_tokenLength (hs : Ext sh) (hr : Rok rf) {a : Int} (ha0 : -1000 ≤ a) (ha1 : a ≤ 1000) (hx : TX v t n) : Cv g mX5_tokenLength [aR 1, aI a] (sh, rf, v) (retI (tlen t n a : Int) (sh, rf, v)) := by
  refine x_entry (ls := [some (aR 1), some (aI a), none]) rfl rfl (Nat.le_of_ble_eq_true rfl) ?_
  refine x_ic (q := 1) dX5_tokenLength_0 rfl rfl ?_
  refine x_is2 (q := 2) dX5_tokenLength_1 rfl rfl ?_
  have key : ∀ (k l : Nat), l + k = 60 → Wv g mX5_tokenLength 0 0 2 [some (aR 1), some (aI a), some (aI (l : Int))] [] (sh, rf, v) (retI (tlk t n a k l : Int) (sh, rf, v)) := by
    intro k
    induction k with
    | zero =>
      intro l hl
      refine x_il_n (q := 3) dX5_tokenLength_2 rfl rfl ?_
      refine x_bi (q := 5) dX5_tokenLength_3 rfl rfl ?_
      refine x_ic_ge (t := 32) (q := 8) dX5_tokenLength_5 rfl rfl (fun c_5 => ?_) (fun c_5 => ?_)
      · skip
        refine x_il_n (q := 33) dX5_tokenLength_32 rfl rfl ?_
        exact x_iret dX5_tokenLength_33 rfl rfl (Nat.zero_le _) (retI_mk (by rfl))
      · skip
        exact absurd (by omega) c_5
    | succ k ih =>
      intro l hl
      refine x_il_n (q := 3) dX5_tokenLength_2 rfl rfl ?_
      refine x_bi (q := 5) dX5_tokenLength_3 rfl rfl ?_
      refine x_ic_ge (t := 32) (q := 8) dX5_tokenLength_5 rfl rfl (fun c_5 => ?_) (fun c_5 => ?_)
      · skip
        exact absurd c_5 (by omega)
      · skip
        refine x_al_n (q := 9) dX5_tokenLength_8 rfl rfl ?_
        refine x_il_n (q := 10) dX5_tokenLength_9 rfl rfl ?_
        refine x_VI (q := 13) (ci := 5) dX5_tokenLength_10 rfl kX5_tokenLength_46 (c_isFigure hs hr hx) rfl rfl (hs _ _ rfl) (by decide) rfl (Nat.le_of_ble_eq_true rfl) ⟨rfl, rfl⟩ ⟨Nat.zero_le _, Nat.zero_le _⟩ ?_
        refine x_if_eq (t := 32) (q := 16) dX5_tokenLength_13 rfl rfl (fun c_13 => ?_) (fun c_13 => ?_)
        · skip
          have hG : tlk t n a (k + 1) l = l := by unfold tlk; rw [if_neg (by rw [b2i_0.mp c_13]; simp)]
          refine x_il_n (q := 33) dX5_tokenLength_32 rfl rfl ?_
          exact x_iret dX5_tokenLength_33 rfl rfl (Nat.zero_le _) (retI_mk (by rw [hG]))
        · skip
          refine x_al_n (q := 17) dX5_tokenLength_16 rfl rfl ?_
          refine x_il_n (q := 18) dX5_tokenLength_17 rfl rfl ?_
          refine x_il_n (q := 19) dX5_tokenLength_18 rfl rfl ?_
          refine x_add (q := 20) dX5_tokenLength_19 rfl ⟨by omega, by omega⟩ ?_
          refine x_VI (q := 23) (ci := 5) dX5_tokenLength_20 rfl kX5_tokenLength_46 (c_isFigure hs hr hx) rfl rfl (hs _ _ rfl) (by decide) rfl (Nat.le_of_ble_eq_true rfl) ⟨rfl, rfl⟩ ⟨Nat.zero_le _, Nat.zero_le _⟩ ?_
          refine x_if_eq (t := 32) (q := 26) dX5_tokenLength_23 rfl rfl (fun c_23 => ?_) (fun c_23 => ?_)
          · skip
            have hG : tlk t n a (k + 1) l = l := by unfold tlk; rw [if_neg (by rw [b2i_0.mp c_23]; simp)]
            refine x_il_n (q := 33) dX5_tokenLength_32 rfl rfl ?_
            exact x_iret dX5_tokenLength_33 rfl rfl (Nat.zero_le _) (retI_mk (by rw [hG]))
          · skip
            have hG : tlk t n a (k + 1) l = tlk t n a k (l + 1) := by show (if _ then _ else _) = _; rw [if_pos (by rw [b2i_n0.mp c_13, b2i_n0.mp c_23]; rfl)]
            rw [hG]
            refine x_ii2 (q := 29) dX5_tokenLength_26 rfl rfl ⟨by omega, by omega⟩ ?_
            refine x_goto (t := 2) dX5_tokenLength_29 rfl ?_
            exact ih (l + 1) (by omega)
  exact key 59 1 rfl
set_option maxHeartbeats 4000000 in
set_option maxRecDepth 100000 in
theorem c_figureAt (hs : Ext sh) (hr : Rok rf) {a lo hi : Int} (ha0 : -1000 ≤ a) (ha1 : a ≤ 1000) (hx : TX v t n) (ht : TR t n) : Cv g mX5_figureAt [aR 1, aI a, aI lo, aI hi] (sh, rf, v) (retI (fgA t n a lo hi) (sh, rf, v)) := by
  have hl := ltr_rng ht a
  refine x_entry (ls := [some (aR 1), some (aI a), some (aI lo), some (aI hi), none]) rfl rfl (Nat.le_of_ble_eq_true rfl) ?_
  refine x_al_n (q := 1) dX5_figureAt_0 rfl rfl ?_
  refine x_il_n (q := 2) dX5_figureAt_1 rfl rfl ?_
  refine x_VI (q := 5) (ci := 5) dX5_figureAt_2 rfl kX5_figureAt_42 (c_letterAt hs hr hx) rfl rfl (hs _ _ rfl) (by decide) rfl (Nat.le_of_ble_eq_true rfl) ⟨rfl, rfl⟩ ⟨Nat.zero_le _, Nat.zero_le _⟩ ?_
  refine x_bi (q := 7) dX5_figureAt_5 rfl rfl ?_
  refine x_sub (q := 8) dX5_figureAt_7 rfl ⟨by omega, by omega⟩ ?_
  refine x_is4 (q := 10) dX5_figureAt_8 rfl rfl ?_
  refine x_al_n (q := 11) dX5_figureAt_10 rfl rfl ?_
  refine x_il_n (q := 12) dX5_figureAt_11 rfl rfl ?_
  refine x_VI (q := 15) (ci := 5) dX5_figureAt_12 rfl kX5_figureAt_68 (c_tokenLength hs hr ha0 ha1 hx) rfl rfl (hs _ _ rfl) (by decide) rfl (Nat.le_of_ble_eq_true rfl) ⟨rfl, rfl⟩ ⟨Nat.zero_le _, Nat.zero_le _⟩ ?_
  refine x_ic (q := 16) dX5_figureAt_15 rfl rfl ?_
  refine x_ic_ne (t := 31) (q := 19) dX5_figureAt_16 rfl rfl (fun c_16 => ?_) (fun c_16 => ?_)
  · skip
    refine x_ic (q := 32) dX5_figureAt_31 rfl rfl ?_
    refine x_goto (t := 37) dX5_figureAt_32 rfl ?_
    exact x_iret dX5_figureAt_37 rfl rfl (Nat.zero_le _) (retI_mk (by first | (rw [fgA, if_pos (by omega)]; done) | (rw [fgA, if_neg (by omega)])))
  · skip
    refine x_il (q := 21) dX5_figureAt_19 rfl rfl ?_
    refine x_il_n (q := 22) dX5_figureAt_21 rfl rfl ?_
    refine x_ic_lt (t := 31) (q := 25) dX5_figureAt_22 rfl rfl (fun c_22 => ?_) (fun c_22 => ?_)
    · skip
      refine x_ic (q := 32) dX5_figureAt_31 rfl rfl ?_
      refine x_goto (t := 37) dX5_figureAt_32 rfl ?_
      exact x_iret dX5_figureAt_37 rfl rfl (Nat.zero_le _) (retI_mk (by first | (rw [fgA, if_pos (by omega)]; done) | (rw [fgA, if_neg (by omega)])))
    · skip
      refine x_il (q := 27) dX5_figureAt_25 rfl rfl ?_
      refine x_il_n (q := 28) dX5_figureAt_27 rfl rfl ?_
      refine x_ic_le (t := 35) (q := 31) dX5_figureAt_28 rfl rfl (fun c_28 => ?_) (fun c_28 => ?_)
      · skip
        refine x_il (q := 37) dX5_figureAt_35 rfl rfl ?_
        exact x_iret dX5_figureAt_37 rfl rfl (Nat.zero_le _) (retI_mk (by first | (rw [fgA, if_pos (by omega)]; done) | (rw [fgA, if_neg (by omega)])))
      · skip
        refine x_ic (q := 32) dX5_figureAt_31 rfl rfl ?_
        refine x_goto (t := 37) dX5_figureAt_32 rfl ?_
        exact x_iret dX5_figureAt_37 rfl rfl (Nat.zero_le _) (retI_mk (by first | (rw [fgA, if_pos (by omega)]; done) | (rw [fgA, if_neg (by omega)])))
set_option maxHeartbeats 4000000 in
set_option maxRecDepth 100000 in
theorem c_bitsAt (hs : Ext sh) (hr : Rok rf) {a : Int} {len : Nat} (ha0 : -1000 ≤ a) (ha1 : a ≤ 1000) (hx : TX v t n) (ht : TR t n) : Cv g mX5_bitsAt [aR 1, aI a, aI (len : Int)] (sh, rf, v) (retI (btA t n a len) (sh, rf, v)) := by
  refine x_entry (ls := [some (aR 1), some (aI a), some (aI (len : Int)), none, none, none]) rfl rfl (Nat.le_of_ble_eq_true rfl) ?_
  refine x_il_n (q := 1) dX5_bitsAt_0 rfl rfl ?_
  refine x_ic (q := 2) dX5_bitsAt_1 rfl rfl ?_
  refine x_ic_lt (t := 10) (q := 5) dX5_bitsAt_2 rfl rfl (fun c_2 => ?_) (fun c_2 => ?_)
  · skip
    have hG : btA t n a len = -1 := by unfold btA; rw [if_pos (by omega)]
    refine x_ic (q := 11) dX5_bitsAt_10 rfl rfl ?_
    exact x_iret dX5_bitsAt_11 rfl rfl (Nat.zero_le _) (retI_mk (by rw [hG]))
  · skip
    refine x_il_n (q := 6) dX5_bitsAt_5 rfl rfl ?_
    refine x_ic (q := 7) dX5_bitsAt_6 rfl rfl ?_
    refine x_ic_le (t := 12) (q := 10) dX5_bitsAt_7 rfl rfl (fun c_7 => ?_) (fun c_7 => ?_)
    · skip
      have hG : btA t n a len = bta t n a len 0 0 := by unfold btA; rw [if_neg (by omega)]
      rw [hG]
      refine x_ic (q := 13) dX5_bitsAt_12 rfl rfl ?_
      refine x_is3 (q := 14) dX5_bitsAt_13 rfl rfl ?_
      refine x_ic (q := 15) dX5_bitsAt_14 rfl rfl ?_
      refine x_is4 (q := 17) dX5_bitsAt_15 rfl rfl ?_
      have key : ∀ (k i : Nat) (b : Int) (o : Option AV), i + k = len → 0 ≤ b → b < 2 ^ i → Wv g mX5_bitsAt 0 0 17 [some (aR 1), some (aI a), some (aI (len : Int)), some (aI b), some (aI (i : Int)), o] [] (sh, rf, v) (retI (bta t n a k i b) (sh, rf, v)) := by
        intro k
        induction k with
        | zero =>
          intro i b o hl hb0 hb1
          refine x_il (q := 19) dX5_bitsAt_17 rfl rfl ?_
          refine x_il_n (q := 20) dX5_bitsAt_19 rfl rfl ?_
          refine x_ic_ge (t := 62) (q := 23) dX5_bitsAt_20 rfl rfl (fun c_20 => ?_) (fun c_20 => ?_)
          · skip
            refine x_il_n (q := 63) dX5_bitsAt_62 rfl rfl ?_
            exact x_iret dX5_bitsAt_63 rfl rfl (Nat.zero_le _) (retI_mk (by rfl))
          · skip
            exact absurd (by omega) c_20
        | succ k ih =>
          intro i b o hl hb0 hb1
          have hl2 := ltr_rng ht (a + i)
          have hp4 := pw_le (k := i) (n := 4) (by omega)
          have hpe : (2 : Int) ^ (i + 1) = 2 ^ i * 2 := Int.pow_succ 2 i
          have hp16 : (2 : Int) ^ 4 = 16 := by decide
          refine x_il (q := 19) dX5_bitsAt_17 rfl rfl ?_
          refine x_il_n (q := 20) dX5_bitsAt_19 rfl rfl ?_
          refine x_ic_ge (t := 62) (q := 23) dX5_bitsAt_20 rfl rfl (fun c_20 => ?_) (fun c_20 => ?_)
          · skip
            exact absurd c_20 (by omega)
          · skip
            refine x_al_n (q := 24) dX5_bitsAt_23 rfl rfl ?_
            refine x_il_n (q := 25) dX5_bitsAt_24 rfl rfl ?_
            refine x_il (q := 27) dX5_bitsAt_25 rfl rfl ?_
            refine x_add (q := 28) dX5_bitsAt_27 rfl ⟨by omega, by omega⟩ ?_
            refine x_VI (q := 31) (ci := 5) dX5_bitsAt_28 rfl kX5_bitsAt_42 (c_letterAt hs hr hx) rfl rfl (hs _ _ rfl) (by decide) rfl (Nat.le_of_ble_eq_true rfl) ⟨rfl, rfl⟩ ⟨Nat.zero_le _, Nat.zero_le _⟩ ?_
            refine x_bi (q := 33) dX5_bitsAt_31 rfl rfl ?_
            refine x_sub (q := 34) dX5_bitsAt_33 rfl ⟨by omega, by omega⟩ ?_
            refine x_is5 (q := 36) dX5_bitsAt_34 rfl rfl ?_
            refine x_il (q := 38) dX5_bitsAt_36 rfl rfl ?_
            refine x_if_lt (t := 47) (q := 41) dX5_bitsAt_38 rfl rfl (fun c_38 => ?_) (fun c_38 => ?_)
            · skip
              have hG : bta t n a (k + 1) i b = -1 := by unfold bta; rw [if_pos (by omega)]
              refine x_ic (q := 48) dX5_bitsAt_47 rfl rfl ?_
              exact x_iret dX5_bitsAt_48 rfl rfl (Nat.zero_le _) (retI_mk (by rw [hG]))
            · skip
              refine x_il (q := 43) dX5_bitsAt_41 rfl rfl ?_
              refine x_ic (q := 44) dX5_bitsAt_43 rfl rfl ?_
              refine x_ic_le (t := 49) (q := 47) dX5_bitsAt_44 rfl rfl (fun c_44 => ?_) (fun c_44 => ?_)
              · skip
                have hG : bta t n a (k + 1) i b = bta t n a k (i + 1) (b * 2 + (ltr t n (a + i) - 48)) := by show (if _ then _ else _) = _; rw [if_neg (by omega)]
                rw [hG]
                refine x_il_n (q := 50) dX5_bitsAt_49 rfl rfl ?_
                refine x_ic (q := 51) dX5_bitsAt_50 rfl rfl ?_
                refine x_shl (q := 52) dX5_bitsAt_51 rfl hb0 (by decide) (by decide) (show inI (b * 2) from ⟨by omega, by omega⟩) ?_
                refine x_il (q := 54) dX5_bitsAt_52 rfl rfl ?_
                refine x_or (q := 55) dX5_bitsAt_54 rfl (show (0 : Int) ≤ b * 2 by omega) (by omega) ?_
                rw [or_bit hb0 (by omega) (by omega)]
                refine x_is3 (q := 56) dX5_bitsAt_55 rfl rfl ?_
                refine x_ii4 (q := 59) dX5_bitsAt_56 rfl rfl ⟨by omega, by omega⟩ ?_
                refine x_goto (t := 17) dX5_bitsAt_59 rfl ?_
                exact ih (i + 1) _ _ (by omega) (by omega) (by omega)
              · skip
                have hG : bta t n a (k + 1) i b = -1 := by unfold bta; rw [if_pos (by omega)]
                refine x_ic (q := 48) dX5_bitsAt_47 rfl rfl ?_
                exact x_iret dX5_bitsAt_48 rfl rfl (Nat.zero_le _) (retI_mk (by rw [hG]))
      exact key len 0 0 _ (by omega) (by decide) (by decide)
    · skip
      have hG : btA t n a len = -1 := by unfold btA; rw [if_pos (by omega)]
      refine x_ic (q := 11) dX5_bitsAt_10 rfl rfl ?_
      exact x_iret dX5_bitsAt_11 rfl rfl (Nat.zero_le _) (retI_mk (by rw [hG]))
def srtH (v : Nat → Nat → Int) (x : Int) : Nat → Nat → Int := if x = 114 then up (up v 3 0 0) 1 2 1 else if x = 99 then up (up v 3 0 1) 1 2 3 else if x = 98 then up (up v 3 0 2) 1 2 4 else v
set_option maxHeartbeats 4000000 in
set_option maxRecDepth 100000 in
theorem c_takesSort (hs : Ext sh) (hr : Rok rf) {x : Int} : Cv g mX5_takesSort [aR 1, aI x, aR 3] (sh, rf, v) (retI (if x = 114 ∨ x = 99 ∨ x = 98 then 1 else 0) (sh, rf, srtH v x)) := by
  refine x_entry (ls := [some (aR 1), some (aI x), some (aR 3)]) rfl rfl (Nat.le_of_ble_eq_true rfl) ?_
  refine x_il_n (q := 1) dX5_takesSort_0 rfl rfl ?_
  by_cases h1 : x = 114
  · subst h1
    refine x_look (t := 36) dX5_takesSort_1 rfl rfl rfl ?_
    refine x_al_n (q := 37) dX5_takesSort_36 rfl rfl ?_
    refine x_ic (q := 38) dX5_takesSort_37 rfl rfl ?_
    refine x_putI (q := 41) dX5_takesSort_38 rfl fX5_83 (hs _ _ rfl) (.inl rfl) rfl ?_
    refine x_al_n (q := 42) dX5_takesSort_41 rfl rfl ?_
    refine x_ic (q := 43) dX5_takesSort_42 rfl rfl ?_
    refine x_putI (q := 46) dX5_takesSort_43 rfl fX5_24 (hs _ _ rfl) (.inl rfl) rfl ?_
    refine x_ic (q := 47) dX5_takesSort_46 rfl rfl ?_
    exact x_zret dX5_takesSort_47 rfl (.inr rfl) rfl (Nat.zero_le _) (retI_mk2 rfl rfl)
  by_cases h2 : x = 99
  · subst h2
    refine x_look (t := 48) dX5_takesSort_1 rfl rfl rfl ?_
    refine x_al_n (q := 49) dX5_takesSort_48 rfl rfl ?_
    refine x_ic (q := 50) dX5_takesSort_49 rfl rfl ?_
    refine x_putI (q := 53) dX5_takesSort_50 rfl fX5_83 (hs _ _ rfl) (.inl rfl) rfl ?_
    refine x_al_n (q := 54) dX5_takesSort_53 rfl rfl ?_
    refine x_ic (q := 55) dX5_takesSort_54 rfl rfl ?_
    refine x_putI (q := 58) dX5_takesSort_55 rfl fX5_24 (hs _ _ rfl) (.inl rfl) rfl ?_
    refine x_ic (q := 59) dX5_takesSort_58 rfl rfl ?_
    exact x_zret dX5_takesSort_59 rfl (.inr rfl) rfl (Nat.zero_le _) (retI_mk2 rfl rfl)
  by_cases h3 : x = 98
  · subst h3
    refine x_look (t := 60) dX5_takesSort_1 rfl rfl rfl ?_
    refine x_al_n (q := 61) dX5_takesSort_60 rfl rfl ?_
    refine x_ic (q := 62) dX5_takesSort_61 rfl rfl ?_
    refine x_putI (q := 65) dX5_takesSort_62 rfl fX5_83 (hs _ _ rfl) (.inl rfl) rfl ?_
    refine x_al_n (q := 66) dX5_takesSort_65 rfl rfl ?_
    refine x_ic (q := 67) dX5_takesSort_66 rfl rfl ?_
    refine x_putI (q := 70) dX5_takesSort_67 rfl fX5_24 (hs _ _ rfl) (.inl rfl) rfl ?_
    refine x_ic (q := 71) dX5_takesSort_70 rfl rfl ?_
    exact x_zret dX5_takesSort_71 rfl (.inr rfl) rfl (Nat.zero_le _) (retI_mk2 rfl rfl)
  refine x_look (t := 72) (off := 71) dX5_takesSort_1 rfl (by rw [Op.lookupswitch.offset_cons, if_neg (fun h => h3 (by omega)), Op.lookupswitch.offset_cons, if_neg (fun h => h2 (by omega)), Op.lookupswitch.offset_cons, if_neg (fun h => h1 (by omega))]; rfl) rfl ?_
  refine x_ic (q := 73) dX5_takesSort_72 rfl rfl ?_
  exact x_zret dX5_takesSort_73 rfl (.inl rfl) rfl (Nat.zero_le _) (retI_mk2 (by rw [if_neg (by omega)]) (by unfold srtH; rw [if_neg h1, if_neg h2, if_neg h3]))
def rtOk (x p q : Int) : Int := if x = 112 ∧ p = 0 then 1 else if x = 113 ∧ q = 0 then 1 else 0
def rtH (v : Nat → Nat → Int) (x : Int) : Nat → Nat → Int := if x = 112 ∧ v 1 3 = 0 then up (up v 1 3 1) 1 2 5 else if x = 113 ∧ v 1 4 = 0 then up (up v 1 4 1) 1 2 6 else v
set_option maxHeartbeats 4000000 in
set_option maxRecDepth 100000 in
theorem c_takesRate (hs : Ext sh) (hr : Rok rf) {x : Int} : Cv g mX5_takesRate [aR 1, aI x] (sh, rf, v) (retI (rtOk x (v 1 3) (v 1 4)) (sh, rf, rtH v x)) := by
  refine x_entry (ls := [some (aR 1), some (aI x)]) rfl rfl (Nat.le_of_ble_eq_true rfl) ?_
  refine x_il_n (q := 1) dX5_takesRate_0 rfl rfl ?_
  refine x_bi (q := 3) dX5_takesRate_1 rfl rfl ?_
  refine x_ic_ne (t := 25) (q := 6) dX5_takesRate_3 rfl rfl (fun c_3 => ?_) (fun c_3 => ?_)
  · skip
    refine x_il_n (q := 26) dX5_takesRate_25 rfl rfl ?_
    refine x_bi (q := 28) dX5_takesRate_26 rfl rfl ?_
    refine x_ic_ne (t := 51) (q := 31) dX5_takesRate_28 rfl rfl (fun c_28 => ?_) (fun c_28 => ?_)
    · skip
      refine x_ic (q := 52) dX5_takesRate_51 rfl rfl ?_
      exact x_zret dX5_takesRate_52 rfl (by first | exact .inl rfl | exact .inr rfl) rfl (Nat.zero_le _) (retI_mk2 (by first | (rw [rtOk, if_pos ⟨by omega, by omega⟩]; done) | (rw [rtOk, if_neg (by omega), if_pos ⟨by omega, by omega⟩]; done) | (rw [rtOk, if_neg (by omega), if_neg (by omega)])) (by first | (rw [rtH, if_pos ⟨by omega, by omega⟩]; done) | (rw [rtH, if_neg (by omega), if_pos ⟨by omega, by omega⟩]; done) | (rw [rtH, if_neg (by omega), if_neg (by omega)])))
    · skip
      refine x_al_n (q := 32) dX5_takesRate_31 rfl rfl ?_
      refine x_getI (q := 35) dX5_takesRate_32 rfl fX5_31 (hs _ _ rfl) rfl ?_
      refine x_if_ne (t := 51) (q := 38) dX5_takesRate_35 rfl rfl (fun c_35 => ?_) (fun c_35 => ?_)
      · skip
        refine x_ic (q := 52) dX5_takesRate_51 rfl rfl ?_
        exact x_zret dX5_takesRate_52 rfl (by first | exact .inl rfl | exact .inr rfl) rfl (Nat.zero_le _) (retI_mk2 (by first | (rw [rtOk, if_pos ⟨by omega, by omega⟩]; done) | (rw [rtOk, if_neg (by omega), if_pos ⟨by omega, by omega⟩]; done) | (rw [rtOk, if_neg (by omega), if_neg (by omega)])) (by first | (rw [rtH, if_pos ⟨by omega, by omega⟩]; done) | (rw [rtH, if_neg (by omega), if_pos ⟨by omega, by omega⟩]; done) | (rw [rtH, if_neg (by omega), if_neg (by omega)])))
      · skip
        refine x_al_n (q := 39) dX5_takesRate_38 rfl rfl ?_
        refine x_ic (q := 40) dX5_takesRate_39 rfl rfl ?_
        refine x_putI (q := 43) dX5_takesRate_40 rfl fX5_31 (hs _ _ rfl) (.inr ⟨rfl, by first | exact .inl rfl | exact .inr rfl⟩) rfl ?_
        refine x_al_n (q := 44) dX5_takesRate_43 rfl rfl ?_
        refine x_bi (q := 46) dX5_takesRate_44 rfl rfl ?_
        refine x_putI (q := 49) dX5_takesRate_46 rfl fX5_24 (hs _ _ rfl) (.inl rfl) rfl ?_
        refine x_ic (q := 50) dX5_takesRate_49 rfl rfl ?_
        exact x_zret dX5_takesRate_50 rfl (by first | exact .inl rfl | exact .inr rfl) rfl (Nat.zero_le _) (retI_mk2 (by first | (rw [rtOk, if_pos ⟨by omega, by omega⟩]; done) | (rw [rtOk, if_neg (by omega), if_pos ⟨by omega, by omega⟩]; done) | (rw [rtOk, if_neg (by omega), if_neg (by omega)])) (by first | (rw [rtH, if_pos ⟨by omega, by omega⟩]; done) | (rw [rtH, if_neg (by omega), if_pos ⟨by omega, by omega⟩]; done) | (rw [rtH, if_neg (by omega), if_neg (by omega)])))
  · skip
    refine x_al_n (q := 7) dX5_takesRate_6 rfl rfl ?_
    refine x_getI (q := 10) dX5_takesRate_7 rfl fX5_27 (hs _ _ rfl) rfl ?_
    refine x_if_ne (t := 25) (q := 13) dX5_takesRate_10 rfl rfl (fun c_10 => ?_) (fun c_10 => ?_)
    · skip
      refine x_il_n (q := 26) dX5_takesRate_25 rfl rfl ?_
      refine x_bi (q := 28) dX5_takesRate_26 rfl rfl ?_
      refine x_ic_ne (t := 51) (q := 31) dX5_takesRate_28 rfl rfl (fun c_28 => ?_) (fun c_28 => ?_)
      · skip
        refine x_ic (q := 52) dX5_takesRate_51 rfl rfl ?_
        exact x_zret dX5_takesRate_52 rfl (by first | exact .inl rfl | exact .inr rfl) rfl (Nat.zero_le _) (retI_mk2 (by first | (rw [rtOk, if_pos ⟨by omega, by omega⟩]; done) | (rw [rtOk, if_neg (by omega), if_pos ⟨by omega, by omega⟩]; done) | (rw [rtOk, if_neg (by omega), if_neg (by omega)])) (by first | (rw [rtH, if_pos ⟨by omega, by omega⟩]; done) | (rw [rtH, if_neg (by omega), if_pos ⟨by omega, by omega⟩]; done) | (rw [rtH, if_neg (by omega), if_neg (by omega)])))
      · skip
        refine x_al_n (q := 32) dX5_takesRate_31 rfl rfl ?_
        refine x_getI (q := 35) dX5_takesRate_32 rfl fX5_31 (hs _ _ rfl) rfl ?_
        refine x_if_ne (t := 51) (q := 38) dX5_takesRate_35 rfl rfl (fun c_35 => ?_) (fun c_35 => ?_)
        · skip
          refine x_ic (q := 52) dX5_takesRate_51 rfl rfl ?_
          exact x_zret dX5_takesRate_52 rfl (by first | exact .inl rfl | exact .inr rfl) rfl (Nat.zero_le _) (retI_mk2 (by first | (rw [rtOk, if_pos ⟨by omega, by omega⟩]; done) | (rw [rtOk, if_neg (by omega), if_pos ⟨by omega, by omega⟩]; done) | (rw [rtOk, if_neg (by omega), if_neg (by omega)])) (by first | (rw [rtH, if_pos ⟨by omega, by omega⟩]; done) | (rw [rtH, if_neg (by omega), if_pos ⟨by omega, by omega⟩]; done) | (rw [rtH, if_neg (by omega), if_neg (by omega)])))
        · skip
          refine x_al_n (q := 39) dX5_takesRate_38 rfl rfl ?_
          refine x_ic (q := 40) dX5_takesRate_39 rfl rfl ?_
          refine x_putI (q := 43) dX5_takesRate_40 rfl fX5_31 (hs _ _ rfl) (.inr ⟨rfl, by first | exact .inl rfl | exact .inr rfl⟩) rfl ?_
          refine x_al_n (q := 44) dX5_takesRate_43 rfl rfl ?_
          refine x_bi (q := 46) dX5_takesRate_44 rfl rfl ?_
          refine x_putI (q := 49) dX5_takesRate_46 rfl fX5_24 (hs _ _ rfl) (.inl rfl) rfl ?_
          refine x_ic (q := 50) dX5_takesRate_49 rfl rfl ?_
          exact x_zret dX5_takesRate_50 rfl (by first | exact .inl rfl | exact .inr rfl) rfl (Nat.zero_le _) (retI_mk2 (by first | (rw [rtOk, if_pos ⟨by omega, by omega⟩]; done) | (rw [rtOk, if_neg (by omega), if_pos ⟨by omega, by omega⟩]; done) | (rw [rtOk, if_neg (by omega), if_neg (by omega)])) (by first | (rw [rtH, if_pos ⟨by omega, by omega⟩]; done) | (rw [rtH, if_neg (by omega), if_pos ⟨by omega, by omega⟩]; done) | (rw [rtH, if_neg (by omega), if_neg (by omega)])))
    · skip
      refine x_al_n (q := 14) dX5_takesRate_13 rfl rfl ?_
      refine x_ic (q := 15) dX5_takesRate_14 rfl rfl ?_
      refine x_putI (q := 18) dX5_takesRate_15 rfl fX5_27 (hs _ _ rfl) (.inr ⟨rfl, by first | exact .inl rfl | exact .inr rfl⟩) rfl ?_
      refine x_al_n (q := 19) dX5_takesRate_18 rfl rfl ?_
      refine x_ic (q := 20) dX5_takesRate_19 rfl rfl ?_
      refine x_putI (q := 23) dX5_takesRate_20 rfl fX5_24 (hs _ _ rfl) (.inl rfl) rfl ?_
      refine x_ic (q := 24) dX5_takesRate_23 rfl rfl ?_
      exact x_zret dX5_takesRate_24 rfl (by first | exact .inl rfl | exact .inr rfl) rfl (Nat.zero_le _) (retI_mk2 (by first | (rw [rtOk, if_pos ⟨by omega, by omega⟩]; done) | (rw [rtOk, if_neg (by omega), if_pos ⟨by omega, by omega⟩]; done) | (rw [rtOk, if_neg (by omega), if_neg (by omega)])) (by first | (rw [rtH, if_pos ⟨by omega, by omega⟩]; done) | (rw [rtH, if_neg (by omega), if_pos ⟨by omega, by omega⟩]; done) | (rw [rtH, if_neg (by omega), if_neg (by omega)])))
def PTt (t : Nat → Int) (n : Nat) (a : Int) (s : Sg) (v : Nat → Nat → Int) (sh : List (Nat × Nat)) (rf : Nat → Nat → Option Nat) : PT := fun r h1 => r = some (aI (b2i (stT t n a s).isSome)) ∧ ∃ u, h1 = (sh, rf, u) ∧ (∀ d, d ≠ 1 → d ≠ 3 → u d = v d) ∧ u 1 1 = v 1 1 ∧ ∀ s2, stT t n a s = some s2 → StOk u s2
theorem pt_ok {a : Int} {s s2 : Sg} {u : Nat → Nat → Int} (h : stT t n a s = some s2) (h1 : ∀ d, d ≠ 1 → d ≠ 3 → u d = v d) (h2 : u 1 1 = v 1 1) (h3 : StOk u s2) : PTt t n a s v sh rf (some (aI 1)) (sh, rf, u) := by
  refine ⟨by rw [h]; rfl, u, rfl, h1, h2, fun s3 h4 => ?_⟩
  rw [h] at h4
  cases h4
  exact h3
theorem pt_no {a : Int} {s : Sg} {u : Nat → Nat → Int} (h : stT t n a s = none) (h1 : ∀ d, d ≠ 1 → d ≠ 3 → u d = v d) (h2 : u 1 1 = v 1 1) : PTt t n a s v sh rf (some (aI 0)) (sh, rf, u) := by
  refine ⟨by rw [h]; rfl, u, rfl, h1, h2, fun s3 h4 => ?_⟩
  rw [h] at h4
  cases h4
set_option maxHeartbeats 4000000 in
set_option maxRecDepth 100000 in
theorem c_takes (hs : Ext sh) (hr : Rok rf) {a : Int} {s : Sg} (ha0 : -1000 ≤ a) (ha1 : a ≤ 1000) (hx : TX v t n) (ht : TR t n) (h8 : s.1 ≤ 8) (hS : StOk v s) : Cv g mX5_takes [aR 1, aI a, aR 3] (sh, rf, v) (PTt t n a s v sh rf) := by
  obtain ⟨aw, p, q, so, lo, hi, P, Q⟩ := s
  obtain ⟨f1, f2, f3, f4⟩ := hS
  dsimp only at f1 f2 f3 f4 h8
  have b0 : v 3 0 = so := congrArg (fun z : Cfg => z.1) f4
  have b1 : v 3 1 = lo := congrArg (fun z : Cfg => z.2.1) f4
  have b2 : v 3 2 = hi := congrArg (fun z : Cfg => z.2.2.1) f4
  have b3 : v 3 3 = P := congrArg (fun z : Cfg => z.2.2.2.1) f4
  have b4 : v 3 4 = Q := congrArg (fun z : Cfg => z.2.2.2.2) f4
  refine x_entry (ls := [some (aR 1), some (aI a), some (aR 3)]) rfl rfl (Nat.le_of_ble_eq_true rfl) ?_
  refine x_al_n (q := 1) dX5_takes_0 rfl rfl ?_
  refine x_getIe (q := 4) (z := (aw : Int)) dX5_takes_1 rfl fX5_24 (hs _ _ rfl) rfl (f1) ?_
  rcases (show aw = 0 ∨ aw = 1 ∨ aw = 2 ∨ aw = 3 ∨ aw = 4 ∨ aw = 5 ∨ aw = 6 ∨ aw = 7 ∨ aw = 8 by omega) with rfl | rfl | rfl | rfl | rfl | rfl | rfl | rfl | rfl
  · refine x_tabI (t := 52) (off := 48) dX5_takes_4 (by decide) (by decide) rfl rfl ?_
    refine x_al_n (q := 53) dX5_takes_52 rfl rfl ?_
    refine x_al_n (q := 54) dX5_takes_53 rfl rfl ?_
    refine x_il_n (q := 55) dX5_takes_54 rfl rfl ?_
    refine x_VI (q := 58) (ci := 5) dX5_takes_55 rfl kX5_takes_42 (c_letterAt hs hr hx) rfl rfl (hs _ _ rfl) (by decide) rfl (Nat.le_of_ble_eq_true rfl) ⟨rfl, rfl⟩ ⟨Nat.zero_le _, Nat.zero_le _⟩ ?_
    refine x_al_n (q := 59) dX5_takes_58 rfl rfl ?_
    refine x_V (q := 62) (ci := 5) dX5_takes_59 rfl kX5_takes_49 (c_takesSort hs hr) rfl rfl (hs _ _ rfl) (by decide) rfl (Nat.le_of_ble_eq_true rfl) ⟨rfl, rfl⟩ ⟨Nat.zero_le _, Nat.zero_le _⟩ (fun r1 h1 hp => ?_)
    obtain ⟨rfl, rfl⟩ := hp
    by_cases c1 : ltr t n a = 114
    · rw [if_pos (.inl c1), show srtH v (ltr t n a) = up (up v 3 0 0) 1 2 1 by unfold srtH; rw [if_pos c1]]
      exact x_zret dX5_takes_62 rfl (.inr rfl) rfl (Nat.zero_le _) (pt_ok (s2 := (1, p, q, 0, lo, hi, P, Q)) (by rw [stT_0, if_pos c1]) (fun d h1 h3 => by simp [up, h1, h3]) (by simp [up]) ⟨by simp [up], by simp [up, f2], by simp [up, f3], by simp [up, banOf, b0, b1, b2, b3, b4]⟩)
    by_cases c2 : ltr t n a = 99
    · rw [if_pos (.inr (.inl c2)), show srtH v (ltr t n a) = up (up v 3 0 1) 1 2 3 by unfold srtH; rw [if_neg c1, if_pos c2]]
      exact x_zret dX5_takes_62 rfl (.inr rfl) rfl (Nat.zero_le _) (pt_ok (s2 := (3, p, q, 1, lo, hi, P, Q)) (by rw [stT_0, if_neg c1, if_pos c2]) (fun d h1 h3 => by simp [up, h1, h3]) (by simp [up]) ⟨by simp [up], by simp [up, f2], by simp [up, f3], by simp [up, banOf, b0, b1, b2, b3, b4]⟩)
    by_cases c3 : ltr t n a = 98
    · rw [if_pos (.inr (.inr c3)), show srtH v (ltr t n a) = up (up v 3 0 2) 1 2 4 by unfold srtH; rw [if_neg c1, if_neg c2, if_pos c3]]
      exact x_zret dX5_takes_62 rfl (.inr rfl) rfl (Nat.zero_le _) (pt_ok (s2 := (4, p, q, 2, lo, hi, P, Q)) (by rw [stT_0, if_neg c1, if_neg c2, if_pos c3]) (fun d h1 h3 => by simp [up, h1, h3]) (by simp [up]) ⟨by simp [up], by simp [up, f2], by simp [up, f3], by simp [up, banOf, b0, b1, b2, b3, b4]⟩)
    rw [if_neg (by omega), show srtH v (ltr t n a) = v by unfold srtH; rw [if_neg c1, if_neg c2, if_neg c3]]
    exact x_zret dX5_takes_62 rfl (.inl rfl) rfl (Nat.zero_le _) (pt_no (by rw [stT_0, if_neg c1, if_neg c2, if_neg c3]) (fun _ _ _ => rfl) rfl)
  · refine x_tabI (t := 63) (off := 59) dX5_takes_4 (by decide) (by decide) rfl rfl ?_
    refine x_al_n (q := 64) dX5_takes_63 rfl rfl ?_
    refine x_al_n (q := 65) dX5_takes_64 rfl rfl ?_
    refine x_il_n (q := 66) dX5_takes_65 rfl rfl ?_
    refine x_ic (q := 67) dX5_takes_66 rfl rfl ?_
    refine x_ic (q := 68) dX5_takes_67 rfl rfl ?_
    refine x_VI (q := 71) (ci := 5) dX5_takes_68 rfl kX5_takes_52 (c_figureAt hs hr ha0 ha1 hx ht) rfl rfl (hs _ _ rfl) (by decide) rfl (Nat.le_of_ble_eq_true rfl) ⟨rfl, rfl⟩ ⟨Nat.zero_le _, Nat.zero_le _⟩ ?_
    refine x_putI (q := 74) dX5_takes_71 rfl fX5_56 (hs _ _ rfl) (.inl rfl) rfl ?_
    refine x_al_n (q := 75) dX5_takes_74 rfl rfl ?_
    refine x_ic (q := 76) dX5_takes_75 rfl rfl ?_
    refine x_putI (q := 79) dX5_takes_76 rfl fX5_24 (hs _ _ rfl) (.inl rfl) rfl ?_
    refine x_al_n (q := 80) dX5_takes_79 rfl rfl ?_
    refine x_getIe (q := 83) (z := fgA t n a 0 3) dX5_takes_80 rfl fX5_56 (hs _ _ rfl) rfl (by simp [up]) ?_
    refine x_ic (q := 84) dX5_takes_83 rfl rfl ?_
    refine x_ic_eq (t := 91) (q := 87) dX5_takes_84 rfl rfl (fun c_84 => ?_) (fun c_84 => ?_)
    · skip
      refine x_ic (q := 92) dX5_takes_91 rfl rfl ?_
      first
      | exact x_zret dX5_takes_92 rfl (.inr rfl) rfl (Nat.zero_le _) (pt_ok (s2 := (2, p, q, so, fgA t n a 0 3, hi, P, Q)) (by rw [stT_1, if_neg c_84]) (fun d h1 h3 => by simp [up, h1, h3]) (by simp [up]) ⟨by simp [up], by simp [up, f2], by simp [up, f3], by simp [up, banOf, b0, b1, b2, b3, b4]⟩)
      | exact x_zret dX5_takes_92 rfl (.inl rfl) rfl (Nat.zero_le _) (pt_no (by rw [stT_1, if_pos c_84]) (fun d h1 h3 => by simp [up, h1, h3]) (by simp [up]))
    · skip
      refine x_ic (q := 88) dX5_takes_87 rfl rfl ?_
      refine x_goto (t := 92) dX5_takes_88 rfl ?_
      first
      | exact x_zret dX5_takes_92 rfl (.inr rfl) rfl (Nat.zero_le _) (pt_ok (s2 := (2, p, q, so, fgA t n a 0 3, hi, P, Q)) (by rw [stT_1, if_neg c_84]) (fun d h1 h3 => by simp [up, h1, h3]) (by simp [up]) ⟨by simp [up], by simp [up, f2], by simp [up, f3], by simp [up, banOf, b0, b1, b2, b3, b4]⟩)
      | exact x_zret dX5_takes_92 rfl (.inl rfl) rfl (Nat.zero_le _) (pt_no (by rw [stT_1, if_pos c_84]) (fun d h1 h3 => by simp [up, h1, h3]) (by simp [up]))
  · refine x_tabI (t := 93) (off := 89) dX5_takes_4 (by decide) (by decide) rfl rfl ?_
    refine x_al_n (q := 94) dX5_takes_93 rfl rfl ?_
    refine x_al_n (q := 95) dX5_takes_94 rfl rfl ?_
    refine x_il_n (q := 96) dX5_takes_95 rfl rfl ?_
    refine x_al_n (q := 97) dX5_takes_96 rfl rfl ?_
    refine x_getIe (q := 100) (z := lo) dX5_takes_97 rfl fX5_56 (hs _ _ rfl) rfl (b1) ?_
    refine x_ic (q := 101) dX5_takes_100 rfl rfl ?_
    refine x_max (q := 104) dX5_takes_101 rfl q418 q419 q76 q420 (Nat.le_of_ble_eq_true rfl) (Nat.le_of_ble_eq_true rfl) (Nat.zero_le _) (Nat.zero_le _) (Nat.le_of_ble_eq_true rfl) ?_
    rw [show (if lo < 1 then 1 else lo) = mx1 lo from rfl]
    refine x_ic (q := 105) dX5_takes_104 rfl rfl ?_
    refine x_VI (q := 108) (ci := 5) dX5_takes_105 rfl kX5_takes_52 (c_figureAt hs hr ha0 ha1 hx ht) rfl rfl (hs _ _ rfl) (by decide) rfl (Nat.le_of_ble_eq_true rfl) ⟨rfl, rfl⟩ ⟨Nat.zero_le _, Nat.zero_le _⟩ ?_
    refine x_putI (q := 111) dX5_takes_108 rfl fX5_65 (hs _ _ rfl) (.inl rfl) rfl ?_
    refine x_al_n (q := 112) dX5_takes_111 rfl rfl ?_
    refine x_bi (q := 114) dX5_takes_112 rfl rfl ?_
    refine x_putI (q := 117) dX5_takes_114 rfl fX5_24 (hs _ _ rfl) (.inl rfl) rfl ?_
    refine x_al_n (q := 118) dX5_takes_117 rfl rfl ?_
    refine x_getIe (q := 121) (z := fgA t n a (mx1 lo) 5) dX5_takes_118 rfl fX5_65 (hs _ _ rfl) rfl (by simp [up]) ?_
    refine x_ic (q := 122) dX5_takes_121 rfl rfl ?_
    refine x_ic_eq (t := 129) (q := 125) dX5_takes_122 rfl rfl (fun c_122 => ?_) (fun c_122 => ?_)
    · skip
      refine x_ic (q := 130) dX5_takes_129 rfl rfl ?_
      first
      | exact x_zret dX5_takes_130 rfl (.inr rfl) rfl (Nat.zero_le _) (pt_ok (s2 := (7, p, q, so, lo, fgA t n a (mx1 lo) 5, P, Q)) (by rw [stT_2, if_neg c_122]) (fun d h1 h3 => by simp [up, h1, h3]) (by simp [up]) ⟨by simp [up], by simp [up, f2], by simp [up, f3], by simp [up, banOf, b0, b1, b2, b3, b4]⟩)
      | exact x_zret dX5_takes_130 rfl (.inl rfl) rfl (Nat.zero_le _) (pt_no (by rw [stT_2, if_pos c_122]) (fun d h1 h3 => by simp [up, h1, h3]) (by simp [up]))
    · skip
      refine x_ic (q := 126) dX5_takes_125 rfl rfl ?_
      refine x_goto (t := 130) dX5_takes_126 rfl ?_
      first
      | exact x_zret dX5_takes_130 rfl (.inr rfl) rfl (Nat.zero_le _) (pt_ok (s2 := (7, p, q, so, lo, fgA t n a (mx1 lo) 5, P, Q)) (by rw [stT_2, if_neg c_122]) (fun d h1 h3 => by simp [up, h1, h3]) (by simp [up]) ⟨by simp [up], by simp [up, f2], by simp [up, f3], by simp [up, banOf, b0, b1, b2, b3, b4]⟩)
      | exact x_zret dX5_takes_130 rfl (.inl rfl) rfl (Nat.zero_le _) (pt_no (by rw [stT_2, if_pos c_122]) (fun d h1 h3 => by simp [up, h1, h3]) (by simp [up]))
  · refine x_tabI (t := 131) (off := 127) dX5_takes_4 (by decide) (by decide) rfl rfl ?_
    refine x_al_n (q := 132) dX5_takes_131 rfl rfl ?_
    refine x_al_n (q := 133) dX5_takes_132 rfl rfl ?_
    refine x_il_n (q := 134) dX5_takes_133 rfl rfl ?_
    refine x_ic (q := 135) dX5_takes_134 rfl rfl ?_
    refine x_ic (q := 136) dX5_takes_135 rfl rfl ?_
    refine x_VI (q := 139) (ci := 5) dX5_takes_136 rfl kX5_takes_52 (c_figureAt hs hr ha0 ha1 hx ht) rfl rfl (hs _ _ rfl) (by decide) rfl (Nat.le_of_ble_eq_true rfl) ⟨rfl, rfl⟩ ⟨Nat.zero_le _, Nat.zero_le _⟩ ?_
    refine x_putI (q := 142) dX5_takes_139 rfl fX5_56 (hs _ _ rfl) (.inl rfl) rfl ?_
    refine x_al_n (q := 143) dX5_takes_142 rfl rfl ?_
    refine x_bi (q := 145) dX5_takes_143 rfl rfl ?_
    refine x_putI (q := 148) dX5_takes_145 rfl fX5_24 (hs _ _ rfl) (.inl rfl) rfl ?_
    refine x_al_n (q := 149) dX5_takes_148 rfl rfl ?_
    refine x_getIe (q := 152) (z := fgA t n a 1 3) dX5_takes_149 rfl fX5_56 (hs _ _ rfl) rfl (by simp [up]) ?_
    refine x_ic (q := 153) dX5_takes_152 rfl rfl ?_
    refine x_ic_eq (t := 160) (q := 156) dX5_takes_153 rfl rfl (fun c_153 => ?_) (fun c_153 => ?_)
    · skip
      refine x_ic (q := 161) dX5_takes_160 rfl rfl ?_
      first
      | exact x_zret dX5_takes_161 rfl (.inr rfl) rfl (Nat.zero_le _) (pt_ok (s2 := (7, p, q, so, fgA t n a 1 3, hi, P, Q)) (by rw [stT_3, if_neg c_153]) (fun d h1 h3 => by simp [up, h1, h3]) (by simp [up]) ⟨by simp [up], by simp [up, f2], by simp [up, f3], by simp [up, banOf, b0, b1, b2, b3, b4]⟩)
      | exact x_zret dX5_takes_161 rfl (.inl rfl) rfl (Nat.zero_le _) (pt_no (by rw [stT_3, if_pos c_153]) (fun d h1 h3 => by simp [up, h1, h3]) (by simp [up]))
    · skip
      refine x_ic (q := 157) dX5_takes_156 rfl rfl ?_
      refine x_goto (t := 161) dX5_takes_157 rfl ?_
      first
      | exact x_zret dX5_takes_161 rfl (.inr rfl) rfl (Nat.zero_le _) (pt_ok (s2 := (7, p, q, so, fgA t n a 1 3, hi, P, Q)) (by rw [stT_3, if_neg c_153]) (fun d h1 h3 => by simp [up, h1, h3]) (by simp [up]) ⟨by simp [up], by simp [up, f2], by simp [up, f3], by simp [up, banOf, b0, b1, b2, b3, b4]⟩)
      | exact x_zret dX5_takes_161 rfl (.inl rfl) rfl (Nat.zero_le _) (pt_no (by rw [stT_3, if_pos c_153]) (fun d h1 h3 => by simp [up, h1, h3]) (by simp [up]))
  · refine x_tabI (t := 162) (off := 158) dX5_takes_4 (by decide) (by decide) rfl rfl ?_
    refine x_al_n (q := 163) dX5_takes_162 rfl rfl ?_
    refine x_al_n (q := 164) dX5_takes_163 rfl rfl ?_
    refine x_il_n (q := 165) dX5_takes_164 rfl rfl ?_
    refine x_VI (q := 168) (ci := 5) dX5_takes_165 rfl kX5_takes_68 (c_tokenLength hs hr ha0 ha1 hx) rfl rfl (hs _ _ rfl) (by decide) rfl (Nat.le_of_ble_eq_true rfl) ⟨rfl, rfl⟩ ⟨Nat.zero_le _, Nat.zero_le _⟩ ?_
    refine x_putI (q := 171) dX5_takes_168 rfl fX5_65 (hs _ _ rfl) (.inl rfl) rfl ?_
    refine x_al_n (q := 172) dX5_takes_171 rfl rfl ?_
    refine x_al_n (q := 173) dX5_takes_172 rfl rfl ?_
    refine x_il_n (q := 174) dX5_takes_173 rfl rfl ?_
    refine x_al_n (q := 175) dX5_takes_174 rfl rfl ?_
    refine x_getIe (q := 178) (z := (tlen t n a : Int)) dX5_takes_175 rfl fX5_65 (hs _ _ rfl) rfl (by simp [up]) ?_
    refine x_VI (q := 181) (ci := 5) dX5_takes_178 rfl kX5_takes_71 (c_bitsAt hs hr (v := up v 3 2 (tlen t n a : Int)) ha0 ha1 (hx.keep (by simp [up]) (by simp [up])) ht) rfl rfl (hs _ _ rfl) (by decide) rfl (Nat.le_of_ble_eq_true rfl) ⟨rfl, rfl⟩ ⟨Nat.zero_le _, Nat.zero_le _⟩ ?_
    refine x_putI (q := 184) dX5_takes_181 rfl fX5_56 (hs _ _ rfl) (.inl rfl) rfl ?_
    refine x_al_n (q := 185) dX5_takes_184 rfl rfl ?_
    refine x_bi (q := 187) dX5_takes_185 rfl rfl ?_
    refine x_putI (q := 190) dX5_takes_187 rfl fX5_24 (hs _ _ rfl) (.inl rfl) rfl ?_
    refine x_al_n (q := 191) dX5_takes_190 rfl rfl ?_
    refine x_getIe (q := 194) (z := btA t n a (tlen t n a)) dX5_takes_191 rfl fX5_56 (hs _ _ rfl) rfl (by simp [up]) ?_
    refine x_ic (q := 195) dX5_takes_194 rfl rfl ?_
    refine x_ic_eq (t := 202) (q := 198) dX5_takes_195 rfl rfl (fun c_195 => ?_) (fun c_195 => ?_)
    · skip
      refine x_ic (q := 203) dX5_takes_202 rfl rfl ?_
      first
      | exact x_zret dX5_takes_203 rfl (.inr rfl) rfl (Nat.zero_le _) (pt_ok (s2 := (7, p, q, so, btA t n a (tlen t n a), (tlen t n a : Int), P, Q)) (by rw [stT_4, if_neg c_195]) (fun d h1 h3 => by simp [up, h1, h3]) (by simp [up]) ⟨by simp [up], by simp [up, f2], by simp [up, f3], by simp [up, banOf, b0, b1, b2, b3, b4]⟩)
      | exact x_zret dX5_takes_203 rfl (.inl rfl) rfl (Nat.zero_le _) (pt_no (by rw [stT_4, if_pos c_195]) (fun d h1 h3 => by simp [up, h1, h3]) (by simp [up]))
    · skip
      refine x_ic (q := 199) dX5_takes_198 rfl rfl ?_
      refine x_goto (t := 203) dX5_takes_199 rfl ?_
      first
      | exact x_zret dX5_takes_203 rfl (.inr rfl) rfl (Nat.zero_le _) (pt_ok (s2 := (7, p, q, so, btA t n a (tlen t n a), (tlen t n a : Int), P, Q)) (by rw [stT_4, if_neg c_195]) (fun d h1 h3 => by simp [up, h1, h3]) (by simp [up]) ⟨by simp [up], by simp [up, f2], by simp [up, f3], by simp [up, banOf, b0, b1, b2, b3, b4]⟩)
      | exact x_zret dX5_takes_203 rfl (.inl rfl) rfl (Nat.zero_le _) (pt_no (by rw [stT_4, if_pos c_195]) (fun d h1 h3 => by simp [up, h1, h3]) (by simp [up]))
  · refine x_tabI (t := 204) (off := 200) dX5_takes_4 (by decide) (by decide) rfl rfl ?_
    refine x_al_n (q := 205) dX5_takes_204 rfl rfl ?_
    refine x_al_n (q := 206) dX5_takes_205 rfl rfl ?_
    refine x_il_n (q := 207) dX5_takes_206 rfl rfl ?_
    refine x_ic (q := 208) dX5_takes_207 rfl rfl ?_
    refine x_ic (q := 209) dX5_takes_208 rfl rfl ?_
    refine x_VI (q := 212) (ci := 5) dX5_takes_209 rfl kX5_takes_52 (c_figureAt hs hr ha0 ha1 hx ht) rfl rfl (hs _ _ rfl) (by decide) rfl (Nat.le_of_ble_eq_true rfl) ⟨rfl, rfl⟩ ⟨Nat.zero_le _, Nat.zero_le _⟩ ?_
    refine x_putI (q := 215) dX5_takes_212 rfl fX5_74 (hs _ _ rfl) (.inl rfl) rfl ?_
    refine x_al_n (q := 216) dX5_takes_215 rfl rfl ?_
    refine x_bi (q := 218) dX5_takes_216 rfl rfl ?_
    refine x_putI (q := 221) dX5_takes_218 rfl fX5_24 (hs _ _ rfl) (.inl rfl) rfl ?_
    refine x_al_n (q := 222) dX5_takes_221 rfl rfl ?_
    refine x_getIe (q := 225) (z := fgA t n a 1 3) dX5_takes_222 rfl fX5_74 (hs _ _ rfl) rfl (by simp [up]) ?_
    refine x_ic (q := 226) dX5_takes_225 rfl rfl ?_
    refine x_ic_eq (t := 233) (q := 229) dX5_takes_226 rfl rfl (fun c_226 => ?_) (fun c_226 => ?_)
    · skip
      refine x_ic (q := 234) dX5_takes_233 rfl rfl ?_
      first
      | exact x_zret dX5_takes_234 rfl (.inr rfl) rfl (Nat.zero_le _) (pt_ok (s2 := (7, p, q, so, lo, hi, fgA t n a 1 3, Q)) (by rw [stT_5, if_neg c_226]) (fun d h1 h3 => by simp [up, h1, h3]) (by simp [up]) ⟨by simp [up], by simp [up, f2], by simp [up, f3], by simp [up, banOf, b0, b1, b2, b3, b4]⟩)
      | exact x_zret dX5_takes_234 rfl (.inl rfl) rfl (Nat.zero_le _) (pt_no (by rw [stT_5, if_pos c_226]) (fun d h1 h3 => by simp [up, h1, h3]) (by simp [up]))
    · skip
      refine x_ic (q := 230) dX5_takes_229 rfl rfl ?_
      refine x_goto (t := 234) dX5_takes_230 rfl ?_
      first
      | exact x_zret dX5_takes_234 rfl (.inr rfl) rfl (Nat.zero_le _) (pt_ok (s2 := (7, p, q, so, lo, hi, fgA t n a 1 3, Q)) (by rw [stT_5, if_neg c_226]) (fun d h1 h3 => by simp [up, h1, h3]) (by simp [up]) ⟨by simp [up], by simp [up, f2], by simp [up, f3], by simp [up, banOf, b0, b1, b2, b3, b4]⟩)
      | exact x_zret dX5_takes_234 rfl (.inl rfl) rfl (Nat.zero_le _) (pt_no (by rw [stT_5, if_pos c_226]) (fun d h1 h3 => by simp [up, h1, h3]) (by simp [up]))
  · refine x_tabI (t := 235) (off := 231) dX5_takes_4 (by decide) (by decide) rfl rfl ?_
    refine x_al_n (q := 236) dX5_takes_235 rfl rfl ?_
    refine x_al_n (q := 237) dX5_takes_236 rfl rfl ?_
    refine x_il_n (q := 238) dX5_takes_237 rfl rfl ?_
    refine x_ic (q := 239) dX5_takes_238 rfl rfl ?_
    refine x_ic (q := 240) dX5_takes_239 rfl rfl ?_
    refine x_VI (q := 243) (ci := 5) dX5_takes_240 rfl kX5_takes_52 (c_figureAt hs hr ha0 ha1 hx ht) rfl rfl (hs _ _ rfl) (by decide) rfl (Nat.le_of_ble_eq_true rfl) ⟨rfl, rfl⟩ ⟨Nat.zero_le _, Nat.zero_le _⟩ ?_
    refine x_putI (q := 246) dX5_takes_243 rfl fX5_77 (hs _ _ rfl) (.inl rfl) rfl ?_
    refine x_al_n (q := 247) dX5_takes_246 rfl rfl ?_
    refine x_bi (q := 249) dX5_takes_247 rfl rfl ?_
    refine x_putI (q := 252) dX5_takes_249 rfl fX5_24 (hs _ _ rfl) (.inl rfl) rfl ?_
    refine x_al_n (q := 253) dX5_takes_252 rfl rfl ?_
    refine x_getIe (q := 256) (z := fgA t n a 1 4) dX5_takes_253 rfl fX5_77 (hs _ _ rfl) rfl (by simp [up]) ?_
    refine x_ic (q := 257) dX5_takes_256 rfl rfl ?_
    refine x_ic_eq (t := 264) (q := 260) dX5_takes_257 rfl rfl (fun c_257 => ?_) (fun c_257 => ?_)
    · skip
      refine x_ic (q := 265) dX5_takes_264 rfl rfl ?_
      first
      | exact x_zret dX5_takes_265 rfl (.inr rfl) rfl (Nat.zero_le _) (pt_ok (s2 := (7, p, q, so, lo, hi, P, fgA t n a 1 4)) (by rw [stT_6, if_neg c_257]) (fun d h1 h3 => by simp [up, h1, h3]) (by simp [up]) ⟨by simp [up], by simp [up, f2], by simp [up, f3], by simp [up, banOf, b0, b1, b2, b3, b4]⟩)
      | exact x_zret dX5_takes_265 rfl (.inl rfl) rfl (Nat.zero_le _) (pt_no (by rw [stT_6, if_pos c_257]) (fun d h1 h3 => by simp [up, h1, h3]) (by simp [up]))
    · skip
      refine x_ic (q := 261) dX5_takes_260 rfl rfl ?_
      refine x_goto (t := 265) dX5_takes_261 rfl ?_
      first
      | exact x_zret dX5_takes_265 rfl (.inr rfl) rfl (Nat.zero_le _) (pt_ok (s2 := (7, p, q, so, lo, hi, P, fgA t n a 1 4)) (by rw [stT_6, if_neg c_257]) (fun d h1 h3 => by simp [up, h1, h3]) (by simp [up]) ⟨by simp [up], by simp [up, f2], by simp [up, f3], by simp [up, banOf, b0, b1, b2, b3, b4]⟩)
      | exact x_zret dX5_takes_265 rfl (.inl rfl) rfl (Nat.zero_le _) (pt_no (by rw [stT_6, if_pos c_257]) (fun d h1 h3 => by simp [up, h1, h3]) (by simp [up]))
  · refine x_tabI (t := 266) (off := 262) dX5_takes_4 (by decide) (by decide) rfl rfl ?_
    refine x_al_n (q := 267) dX5_takes_266 rfl rfl ?_
    refine x_bi (q := 269) dX5_takes_267 rfl rfl ?_
    refine x_putI (q := 272) dX5_takes_269 rfl fX5_24 (hs _ _ rfl) (.inl rfl) rfl ?_
    refine x_al_n (q := 273) dX5_takes_272 rfl rfl ?_
    refine x_il_n (q := 274) dX5_takes_273 rfl rfl ?_
    refine x_VI (q := 277) (ci := 5) dX5_takes_274 rfl kX5_takes_42 (c_letterAt hs hr (v := up v 1 2 8) (hx.keep (by simp [up]) (by simp [up]))) rfl rfl (hs _ _ rfl) (by decide) rfl (Nat.le_of_ble_eq_true rfl) ⟨rfl, rfl⟩ ⟨Nat.zero_le _, Nat.zero_le _⟩ ?_
    refine x_bi (q := 279) dX5_takes_277 rfl rfl ?_
    refine x_ic_ne (t := 286) (q := 282) dX5_takes_279 rfl rfl (fun c_279 => ?_) (fun c_279 => ?_)
    · skip
      refine x_ic (q := 287) dX5_takes_286 rfl rfl ?_
      first
      | exact x_zret dX5_takes_287 rfl (.inr rfl) rfl (Nat.zero_le _) (pt_ok (s2 := (8, p, q, so, lo, hi, P, Q)) (by rw [stT_7, if_pos c_279]) (fun d h1 h3 => by simp [up, h1, h3]) (by simp [up]) ⟨by simp [up], by simp [up, f2], by simp [up, f3], by simp [up, banOf, b0, b1, b2, b3, b4]⟩)
      | exact x_zret dX5_takes_287 rfl (.inl rfl) rfl (Nat.zero_le _) (pt_no (by rw [stT_7, if_neg c_279]) (fun d h1 h3 => by simp [up, h1, h3]) (by simp [up]))
    · skip
      refine x_ic (q := 283) dX5_takes_282 rfl rfl ?_
      refine x_goto (t := 287) dX5_takes_283 rfl ?_
      first
      | exact x_zret dX5_takes_287 rfl (.inr rfl) rfl (Nat.zero_le _) (pt_ok (s2 := (8, p, q, so, lo, hi, P, Q)) (by rw [stT_7, if_pos c_279]) (fun d h1 h3 => by simp [up, h1, h3]) (by simp [up]) ⟨by simp [up], by simp [up, f2], by simp [up, f3], by simp [up, banOf, b0, b1, b2, b3, b4]⟩)
      | exact x_zret dX5_takes_287 rfl (.inl rfl) rfl (Nat.zero_le _) (pt_no (by rw [stT_7, if_neg c_279]) (fun d h1 h3 => by simp [up, h1, h3]) (by simp [up]))
  · refine x_tabO (t := 288) dX5_takes_4 (by decide) rfl ?_
    refine x_al_n (q := 289) dX5_takes_288 rfl rfl ?_
    refine x_al_n (q := 290) dX5_takes_289 rfl rfl ?_
    refine x_il_n (q := 291) dX5_takes_290 rfl rfl ?_
    refine x_VI (q := 294) (ci := 5) dX5_takes_291 rfl kX5_takes_42 (c_letterAt hs hr hx) rfl rfl (hs _ _ rfl) (by decide) rfl (Nat.le_of_ble_eq_true rfl) ⟨rfl, rfl⟩ ⟨Nat.zero_le _, Nat.zero_le _⟩ ?_
    refine x_V (q := 297) (ci := 5) dX5_takes_294 rfl kX5_takes_80 (c_takesRate hs hr) rfl rfl (hs _ _ rfl) (by decide) rfl (Nat.le_of_ble_eq_true rfl) ⟨rfl, rfl⟩ ⟨Nat.zero_le _, Nat.zero_le _⟩ (fun r1 h1 hp => ?_)
    obtain ⟨rfl, rfl⟩ := hp
    rw [f2, f3]
    by_cases c1 : ltr t n a = 112 ∧ p = false
    · rw [show rtOk (ltr t n a) (b2i p) (b2i q) = 1 by unfold rtOk; rw [if_pos ⟨c1.1, by rw [c1.2]; rfl⟩], show rtH v (ltr t n a) = up (up v 1 3 1) 1 2 5 by unfold rtH; rw [if_pos ⟨c1.1, by rw [f2, c1.2]; rfl⟩]]
      exact x_zret dX5_takes_297 rfl (.inr rfl) rfl (Nat.zero_le _) (pt_ok (s2 := (5, true, q, so, lo, hi, P, Q)) (by rw [stT_8, if_pos c1]) (fun d h1 h3 => by simp [up, h1, h3]) (by simp [up]) ⟨by simp [up], by simp [up, b2i], by simp [up, f3], by simp [up, banOf, b0, b1, b2, b3, b4]⟩)
    have d1 : ¬ (ltr t n a = 112 ∧ b2i p = 0) := fun h => c1 ⟨h.1, b2i_0.mp h.2⟩
    by_cases c2 : ltr t n a = 113 ∧ q = false
    · rw [show rtOk (ltr t n a) (b2i p) (b2i q) = 1 by unfold rtOk; rw [if_neg d1, if_pos ⟨c2.1, by rw [c2.2]; rfl⟩], show rtH v (ltr t n a) = up (up v 1 4 1) 1 2 6 by unfold rtH; rw [if_neg (by rw [f2]; exact d1), if_pos ⟨c2.1, by rw [f3, c2.2]; rfl⟩]]
      exact x_zret dX5_takes_297 rfl (.inr rfl) rfl (Nat.zero_le _) (pt_ok (s2 := (6, p, true, so, lo, hi, P, Q)) (by rw [stT_8, if_neg c1, if_pos c2]) (fun d h1 h3 => by simp [up, h1, h3]) (by simp [up]) ⟨by simp [up], by simp [up, f2], by simp [up, b2i], by simp [up, banOf, b0, b1, b2, b3, b4]⟩)
    have d2 : ¬ (ltr t n a = 113 ∧ b2i q = 0) := fun h => c2 ⟨h.1, b2i_0.mp h.2⟩
    rw [show rtOk (ltr t n a) (b2i p) (b2i q) = 0 by unfold rtOk; rw [if_neg d1, if_neg d2], show rtH v (ltr t n a) = v by unfold rtH; rw [if_neg (by rw [f2]; exact d1), if_neg (by rw [f3]; exact d2)]]
    exact x_zret dX5_takes_297 rfl (.inl rfl) rfl (Nat.zero_le _) (pt_no (by rw [stT_8, if_neg c1, if_neg c2]) (fun _ _ _ => rfl) rfl)
set_option maxHeartbeats 4000000 in
set_option maxRecDepth 100000 in
theorem c_readTo (hs : Ext sh) (hr : Rok rf) (hx : TX v t n) (ht : TR t n) : Cv g mX5_readTo [aR 1, aR 3] (sh, rf, v) (fun r h1 => r = some (aI (parse t n).1) ∧ ∃ u, h1 = (sh, rf, u) ∧ (∀ d, d ≠ 1 → d ≠ 3 → u d = v d) ∧ u 1 1 = v 1 1 ∧ ((parse t n).1 = -1 → banOf u 3 = (parse t n).2)) := by
  have key : ∀ (k a : Nat) (s : Sg) (u : Nat → Nat → Int), a + k = n → GS s → StOk u s → (∀ d, d ≠ 1 → d ≠ 3 → u d = v d) → u 1 1 = v 1 1 → Wv g mX5_readTo 0 0 21 [some (aR 1), some (aR 3), some (aI (a : Int))] [] (sh, rf, u) (fun r h1 => r = some (aI (crun t n k a s).1) ∧ ∃ u, h1 = (sh, rf, u) ∧ (∀ d, d ≠ 1 → d ≠ 3 → u d = v d) ∧ u 1 1 = v 1 1 ∧ ((crun t n k a s).1 = -1 → banOf u 3 = (crun t n k a s).2)) := by
    intro k
    induction k with
    | zero =>
      intro a s u ha hg hS hu1 hu2
      refine x_il_n (q := 22) dX5_readTo_21 rfl rfl ?_
      refine x_al_n (q := 23) dX5_readTo_22 rfl rfl ?_
      refine x_getIe (q := 26) (z := (n : Int)) dX5_readTo_23 rfl fX5_15 (hs _ _ rfl) rfl (by rw [hu2]; exact hx.1) ?_
      refine x_ic_ge (t := 54) (q := 29) dX5_readTo_26 rfl rfl (fun c_26 => ?_) (fun c_26 => ?_)
      · skip
        refine x_al_n (q := 55) dX5_readTo_54 rfl rfl ?_
        refine x_getIe (q := 58) (z := (s.1 : Int)) dX5_readTo_55 rfl fX5_24 (hs _ _ rfl) rfl (hS.1) ?_
        refine x_bi (q := 60) dX5_readTo_58 rfl rfl ?_
        refine x_ic_ne (t := 67) (q := 63) dX5_readTo_60 rfl rfl (fun c_60 => ?_) (fun c_60 => ?_)
        · skip
          have h8 : ¬ s.1 = 8 := by omega
          refine x_al_n (q := 68) dX5_readTo_67 rfl rfl ?_
          refine x_getIe (q := 71) (z := (n : Int)) dX5_readTo_68 rfl fX5_15 (hs _ _ rfl) rfl (by rw [hu2]; exact hx.1) ?_
          first
          | exact x_iret dX5_readTo_71 rfl rfl (Nat.zero_le _) ⟨by unfold crun; rw [if_pos h8], u, rfl, hu1, hu2, fun _ => hS.2.2.2⟩
          | exact x_iret dX5_readTo_71 rfl rfl (Nat.zero_le _) ⟨by unfold crun; rw [if_neg h8], u, rfl, hu1, hu2, fun _ => hS.2.2.2⟩
        · skip
          have h8 : s.1 = 8 := by omega
          refine x_ic (q := 64) dX5_readTo_63 rfl rfl ?_
          refine x_goto (t := 71) dX5_readTo_64 rfl ?_
          first
          | exact x_iret dX5_readTo_71 rfl rfl (Nat.zero_le _) ⟨by unfold crun; rw [if_pos h8], u, rfl, hu1, hu2, fun _ => hS.2.2.2⟩
          | exact x_iret dX5_readTo_71 rfl rfl (Nat.zero_le _) ⟨by unfold crun; rw [if_neg h8], u, rfl, hu1, hu2, fun _ => hS.2.2.2⟩
      · skip
        exact absurd (by omega) c_26
    | succ k ih =>
      intro a s u ha hg hS hu1 hu2
      have hxu : TX u t n := hx.keep hu2 (hu1 2 (by decide) (by decide))
      have hn60 := hx.2.1
      refine x_il_n (q := 22) dX5_readTo_21 rfl rfl ?_
      refine x_al_n (q := 23) dX5_readTo_22 rfl rfl ?_
      refine x_getIe (q := 26) (z := (n : Int)) dX5_readTo_23 rfl fX5_15 (hs _ _ rfl) rfl (by rw [hu2]; exact hx.1) ?_
      refine x_ic_ge (t := 54) (q := 29) dX5_readTo_26 rfl rfl (fun c_26 => ?_) (fun c_26 => ?_)
      · skip
        exact absurd c_26 (by omega)
      · skip
        refine x_al_n (q := 30) dX5_readTo_29 rfl rfl ?_
        refine x_il_n (q := 31) dX5_readTo_30 rfl rfl ?_
        refine x_VI (q := 34) (ci := 5) dX5_readTo_31 rfl kX5_readTo_34 (c_isTokenStart hs hr (v := u) (by omega) (by omega) hxu) rfl rfl (hs _ _ rfl) (by decide) rfl (Nat.le_of_ble_eq_true rfl) ⟨rfl, rfl⟩ ⟨Nat.zero_le _, Nat.zero_le _⟩ ?_
        refine x_if_eq (t := 48) (q := 37) dX5_readTo_34 rfl rfl (fun c_34 => ?_) (fun c_34 => ?_)
        · skip
          have hT : tokB t n a = false := b2i_0.mp c_34
          have hc : crun t n (k + 1) a s = crun t n k (a + 1) s := by show (if _ then _ else _) = _; rw [if_neg (by rw [hT]; decide)]
          rw [hc]
          refine x_ii2 (q := 51) dX5_readTo_48 rfl rfl ⟨by omega, by omega⟩ ?_
          refine x_goto (t := 21) dX5_readTo_51 rfl ?_
          exact ih (a + 1) s u (by omega) hg hS hu1 hu2
        · skip
          refine x_al_n (q := 38) dX5_readTo_37 rfl rfl ?_
          refine x_il_n (q := 39) dX5_readTo_38 rfl rfl ?_
          refine x_al_n (q := 40) dX5_readTo_39 rfl rfl ?_
          refine x_V (q := 43) (ci := 5) dX5_readTo_40 rfl kX5_readTo_38 (c_takes hs hr (v := u) (s := s) (by omega) (by omega) hxu ht hg.1 hS) rfl rfl (hs _ _ rfl) (by decide) rfl (Nat.le_of_ble_eq_true rfl) ⟨rfl, rfl⟩ ⟨Nat.zero_le _, Nat.zero_le _⟩ (fun r1 h1 hp => ?_)
          obtain ⟨rfl, u2, rfl, g1, g2, g3⟩ := hp
          refine x_if_ne (t := 48) (q := 46) dX5_readTo_43 rfl rfl (fun c_43 => ?_) (fun c_43 => ?_)
          · skip
            cases hst : stT t n a s with
            | none => rw [hst] at c_43; exact absurd rfl c_43
            | some s2 =>
              have hc : crun t n (k + 1) a s = crun t n k (a + 1) s2 := by show (if _ then _ else _) = _; rw [if_pos (b2i_n0.mp c_34), hst]
              rw [hc]
              refine x_ii2 (q := 51) dX5_readTo_48 rfl rfl ⟨by omega, by omega⟩ ?_
              refine x_goto (t := 21) dX5_readTo_51 rfl ?_
              exact ih (a + 1) s2 u2 (by omega) (stT_GS hg hst) (g3 s2 hst) (fun d h1 h3 => by rw [g1 d h1 h3]; exact hu1 d h1 h3) (by rw [g2]; exact hu2)
          · skip
            cases hst : stT t n a s with
            | some s2 => rw [hst] at c_43; exact absurd c_43 (show ¬ (1 : Int) = 0 by decide)
            | none =>
              have hc : crun t n (k + 1) a s = ((a : Int), s.2.2.2) := by show (if _ then _ else _) = _; rw [if_pos (b2i_n0.mp c_34), hst]
              rw [hc]
              refine x_il_n (q := 47) dX5_readTo_46 rfl rfl ?_
              exact x_iret dX5_readTo_47 rfl rfl (Nat.zero_le _) ⟨rfl, u2, rfl, fun d h1 h3 => by rw [g1 d h1 h3]; exact hu1 d h1 h3, by rw [g2]; exact hu2, fun h => absurd h (show ¬ (a : Int) = -1 by omega)⟩
  refine x_entry (ls := [some (aR 1), some (aR 3), none]) rfl rfl (Nat.le_of_ble_eq_true rfl) ?_
  refine x_al_n (q := 1) dX5_readTo_0 rfl rfl ?_
  refine x_V (q := 4) (ci := 1) dX5_readTo_1 rfl kX5_readTo_19 (c_setFirst (c := 3) (hs _ _ rfl)) rfl rfl (hs _ _ rfl) (by decide) rfl (Nat.le_of_ble_eq_true rfl) ⟨rfl, rfl⟩ ⟨Nat.zero_le _, Nat.zero_le _⟩ (fun r1 h1 hp => ?_)
  obtain ⟨rfl, rfl⟩ := hp
  refine x_al_n (q := 5) dX5_readTo_4 rfl rfl ?_
  refine x_ic (q := 6) dX5_readTo_5 rfl rfl ?_
  refine x_putI (q := 9) dX5_readTo_6 rfl fX5_24 (hs _ _ rfl) (.inl rfl) rfl ?_
  refine x_al_n (q := 10) dX5_readTo_9 rfl rfl ?_
  refine x_ic (q := 11) dX5_readTo_10 rfl rfl ?_
  refine x_putI (q := 14) dX5_readTo_11 rfl fX5_27 (hs _ _ rfl) (.inr ⟨rfl, by first | exact .inl rfl | exact .inr rfl⟩) rfl ?_
  refine x_al_n (q := 15) dX5_readTo_14 rfl rfl ?_
  refine x_ic (q := 16) dX5_readTo_15 rfl rfl ?_
  refine x_putI (q := 19) dX5_readTo_16 rfl fX5_31 (hs _ _ rfl) (.inr ⟨rfl, by first | exact .inl rfl | exact .inr rfl⟩) rfl ?_
  refine x_ic (q := 20) dX5_readTo_19 rfl rfl ?_
  refine x_is2 (q := 21) dX5_readTo_20 rfl rfl ?_
  refine key n 0 Sg0 _ (by omega) GS0 ⟨?_, ?_, ?_, ?_⟩ (fun d h1 h3 => ?_) ?_
  · simp [up, Sg0]
  · simp [up, Sg0, b2i]
  · simp [up, Sg0, b2i]
  · simp [up, setBan, banOf, Sg0]
  · simp [up, setBan, h1, h3]
  · simp [up, setBan]
end TXT

/-! ===== Arcs ===== -/
def endF (v : Nat → Nat → Int) (s w : Int) : Int := if 0 ≤ s ∧ s < 7 ∧ 0 ≤ w ∧ w < 16 then v 11 (s * 16 + w).toNat else -9
def tagF (v : Nat → Nat → Int) (s w : Int) : Int := if 0 ≤ s ∧ s < 7 ∧ 0 ≤ w ∧ w < 16 then v 12 (s * 16 + w).toNat else -9
theorem cnt_t {f : Nat → Bool} {n : Nat} (h : f n = true) : cnt f (n + 1) = cnt f n + 1 := by show cnt f n + b2i (f n) = _; rw [h]; rfl
theorem cnt_f {f : Nat → Bool} {n : Nat} (h : f n = false) : cnt f (n + 1) = cnt f n := by show cnt f n + b2i (f n) = _; rw [h]; simp [b2i]
theorem fi_t {f : Nat → Bool} {i k : Nat} (h : f i = true) : fi f i (k + 1) = i := by unfold fi; rw [if_pos h]
theorem fi_f {f : Nat → Bool} {i k : Nat} (h : f i = false) : fi f i (k + 1) = fi f (i + 1) k := by
  show (if f i then (i : Int) else fi f (i + 1) k) = _
  rw [if_neg (by rw [h]; decide)]
theorem up_at (v : Nat → Nat → Int) (c k : Nat) (z : Int) (j : Nat) : up v c k z c j = if j = k then z else v c j := by simp [up]
theorem eT_in {c : Cfg} {s w : Nat} (h1 : (s : Int) < nst c.1 c.2.1 c.2.2.1) (h2 : (w : Int) < 2 ^ c.2.2.2.2.toNat) : eT c s w = LO c.1 c.2.1 c.2.2.1 w c.2.2.2.2.toNat s := by unfold eT; rw [if_pos ⟨h1, h2⟩]
theorem eT_o1 {c : Cfg} {s w : Nat} (h1 : ¬ (s : Int) < nst c.1 c.2.1 c.2.2.1) : eT c s w = -9 := by unfold eT; rw [if_neg (fun h => h1 h.1)]
theorem eT_o2 {c : Cfg} {s w : Nat} (h1 : ¬ (w : Int) < 2 ^ c.2.2.2.2.toNat) : eT c s w = -9 := by unfold eT; rw [if_neg (fun h => h1 h.2)]
section ARC
variable {g : GL} {sh : List (Nat × Nat)} {rf : Nat → Nat → Option Nat} {v : Nat → Nat → Int}

set_option maxHeartbeats 4000000 in
set_option maxRecDepth 100000 in
theorem c_endOf (hs : Ext sh) (hr : Rok rf) {s w : Int} : Cv g mX0_endOf [aR 10, aI s, aI w] (sh, rf, v) (retI (endF v s w) (sh, rf, v)) := by
  refine x_entry (ls := [some (aR 10), some (aI s), some (aI w)]) rfl rfl (Nat.le_of_ble_eq_true rfl) ?_
  refine x_il_n (q := 1) dX0_endOf_0 rfl rfl ?_
  refine x_if_lt (t := 20) (q := 4) dX0_endOf_1 rfl rfl (fun c_1 => ?_) (fun c_1 => ?_)
  · skip
    refine x_bi (q := 22) dX0_endOf_20 rfl rfl ?_
    exact x_iret dX0_endOf_22 rfl rfl (Nat.zero_le _) (retI_mk (by first | rw [endF, if_neg (by omega)] | rw [endF, if_pos (by omega)]))
  · skip
    refine x_il_n (q := 5) dX0_endOf_4 rfl rfl ?_
    refine x_bi (q := 7) dX0_endOf_5 rfl rfl ?_
    refine x_ic_ge (t := 20) (q := 10) dX0_endOf_7 rfl rfl (fun c_7 => ?_) (fun c_7 => ?_)
    · skip
      refine x_bi (q := 22) dX0_endOf_20 rfl rfl ?_
      exact x_iret dX0_endOf_22 rfl rfl (Nat.zero_le _) (retI_mk (by first | rw [endF, if_neg (by omega)] | rw [endF, if_pos (by omega)]))
    · skip
      refine x_il_n (q := 11) dX0_endOf_10 rfl rfl ?_
      refine x_if_lt (t := 20) (q := 14) dX0_endOf_11 rfl rfl (fun c_11 => ?_) (fun c_11 => ?_)
      · skip
        refine x_bi (q := 22) dX0_endOf_20 rfl rfl ?_
        exact x_iret dX0_endOf_22 rfl rfl (Nat.zero_le _) (retI_mk (by first | rw [endF, if_neg (by omega)] | rw [endF, if_pos (by omega)]))
      · skip
        refine x_il_n (q := 15) dX0_endOf_14 rfl rfl ?_
        refine x_bi (q := 17) dX0_endOf_15 rfl rfl ?_
        refine x_ic_lt (t := 23) (q := 20) dX0_endOf_17 rfl rfl (fun c_17 => ?_) (fun c_17 => ?_)
        · skip
          refine x_al_n (q := 24) dX0_endOf_23 rfl rfl ?_
          refine x_getR (q := 27) (o := some (11)) dX0_endOf_24 rfl fX0_9 (hs _ _ rfl) rfl (hr _ _ _ rfl) ?_
          refine x_il_n (q := 28) dX0_endOf_27 rfl rfl ?_
          refine x_bi (q := 30) dX0_endOf_28 rfl rfl ?_
          refine x_mul (q := 31) dX0_endOf_30 rfl ⟨by omega, by omega⟩ ?_
          refine x_il_n (q := 32) dX0_endOf_31 rfl rfl ?_
          refine x_add (q := 33) dX0_endOf_32 rfl ⟨by omega, by omega⟩ ?_
          refine x_iald (q := 34) dX0_endOf_33 rfl (hs _ _ rfl) (by omega) (by omega) ?_
          exact x_iret dX0_endOf_34 rfl rfl (Nat.zero_le _) (retI_mk (by first | rw [endF, if_neg (by omega)] | rw [endF, if_pos (by omega)]))
        · skip
          refine x_bi (q := 22) dX0_endOf_20 rfl rfl ?_
          exact x_iret dX0_endOf_22 rfl rfl (Nat.zero_le _) (retI_mk (by first | rw [endF, if_neg (by omega)] | rw [endF, if_pos (by omega)]))
set_option maxHeartbeats 4000000 in
set_option maxRecDepth 100000 in
theorem c_tagOf (hs : Ext sh) (hr : Rok rf) {s w : Int} : Cv g mX0_tagOf [aR 10, aI s, aI w] (sh, rf, v) (retI (tagF v s w) (sh, rf, v)) := by
  refine x_entry (ls := [some (aR 10), some (aI s), some (aI w)]) rfl rfl (Nat.le_of_ble_eq_true rfl) ?_
  refine x_il_n (q := 1) dX0_tagOf_0 rfl rfl ?_
  refine x_if_lt (t := 20) (q := 4) dX0_tagOf_1 rfl rfl (fun c_1 => ?_) (fun c_1 => ?_)
  · skip
    refine x_bi (q := 22) dX0_tagOf_20 rfl rfl ?_
    exact x_iret dX0_tagOf_22 rfl rfl (Nat.zero_le _) (retI_mk (by first | rw [tagF, if_neg (by omega)] | rw [tagF, if_pos (by omega)]))
  · skip
    refine x_il_n (q := 5) dX0_tagOf_4 rfl rfl ?_
    refine x_bi (q := 7) dX0_tagOf_5 rfl rfl ?_
    refine x_ic_ge (t := 20) (q := 10) dX0_tagOf_7 rfl rfl (fun c_7 => ?_) (fun c_7 => ?_)
    · skip
      refine x_bi (q := 22) dX0_tagOf_20 rfl rfl ?_
      exact x_iret dX0_tagOf_22 rfl rfl (Nat.zero_le _) (retI_mk (by first | rw [tagF, if_neg (by omega)] | rw [tagF, if_pos (by omega)]))
    · skip
      refine x_il_n (q := 11) dX0_tagOf_10 rfl rfl ?_
      refine x_if_lt (t := 20) (q := 14) dX0_tagOf_11 rfl rfl (fun c_11 => ?_) (fun c_11 => ?_)
      · skip
        refine x_bi (q := 22) dX0_tagOf_20 rfl rfl ?_
        exact x_iret dX0_tagOf_22 rfl rfl (Nat.zero_le _) (retI_mk (by first | rw [tagF, if_neg (by omega)] | rw [tagF, if_pos (by omega)]))
      · skip
        refine x_il_n (q := 15) dX0_tagOf_14 rfl rfl ?_
        refine x_bi (q := 17) dX0_tagOf_15 rfl rfl ?_
        refine x_ic_lt (t := 23) (q := 20) dX0_tagOf_17 rfl rfl (fun c_17 => ?_) (fun c_17 => ?_)
        · skip
          refine x_al_n (q := 24) dX0_tagOf_23 rfl rfl ?_
          refine x_getR (q := 27) (o := some (12)) dX0_tagOf_24 rfl fX0_15 (hs _ _ rfl) rfl (hr _ _ _ rfl) ?_
          refine x_il_n (q := 28) dX0_tagOf_27 rfl rfl ?_
          refine x_bi (q := 30) dX0_tagOf_28 rfl rfl ?_
          refine x_mul (q := 31) dX0_tagOf_30 rfl ⟨by omega, by omega⟩ ?_
          refine x_il_n (q := 32) dX0_tagOf_31 rfl rfl ?_
          refine x_add (q := 33) dX0_tagOf_32 rfl ⟨by omega, by omega⟩ ?_
          refine x_iald (q := 34) dX0_tagOf_33 rfl (hs _ _ rfl) (by omega) (by omega) ?_
          exact x_iret dX0_tagOf_34 rfl rfl (Nat.zero_le _) (retI_mk (by first | rw [tagF, if_neg (by omega)] | rw [tagF, if_pos (by omega)]))
        · skip
          refine x_bi (q := 22) dX0_tagOf_20 rfl rfl ?_
          exact x_iret dX0_tagOf_22 rfl rfl (Nat.zero_le _) (retI_mk (by first | rw [tagF, if_neg (by omega)] | rw [tagF, if_pos (by omega)]))
set_option maxHeartbeats 4000000 in
set_option maxRecDepth 100000 in
theorem c_has  {b s : Int} {h : AH} (h0 : 0 ≤ b) : Cv g mX0_has [aI b, aI s] h (retI (b2i (hasB b s)) h) := by
  refine x_entry (ls := [some (aI b), some (aI s)]) rfl rfl (Nat.le_of_ble_eq_true rfl) ?_
  refine x_il_n (q := 1) dX0_has_0 rfl rfl ?_
  refine x_if_lt (t := 23) (q := 4) dX0_has_1 rfl rfl (fun c_1 => ?_) (fun c_1 => ?_)
  · skip
    refine x_ic (q := 24) dX0_has_23 rfl rfl ?_
    exact x_zret dX0_has_24 rfl (by first | exact .inl rfl | exact .inr rfl | exact b2i_01 _) rfl (Nat.zero_le _) (retI_mk (by first | (rw [hasB, decide_eq_true ⟨by omega, by omega, by omega⟩]; rfl) | (rw [hasB, decide_eq_false (by omega)]; rfl)))
  · skip
    refine x_il_n (q := 5) dX0_has_4 rfl rfl ?_
    refine x_bi (q := 7) dX0_has_5 rfl rfl ?_
    refine x_ic_ge (t := 23) (q := 10) dX0_has_7 rfl rfl (fun c_7 => ?_) (fun c_7 => ?_)
    · skip
      refine x_ic (q := 24) dX0_has_23 rfl rfl ?_
      exact x_zret dX0_has_24 rfl (by first | exact .inl rfl | exact .inr rfl | exact b2i_01 _) rfl (Nat.zero_le _) (retI_mk (by first | (rw [hasB, decide_eq_true ⟨by omega, by omega, by omega⟩]; rfl) | (rw [hasB, decide_eq_false (by omega)]; rfl)))
    · skip
      refine x_il_n (q := 11) dX0_has_10 rfl rfl ?_
      refine x_il_n (q := 12) dX0_has_11 rfl rfl ?_
      refine x_shr (q := 13) dX0_has_12 rfl (by omega) (by omega) (by omega) ?_
      refine x_ic (q := 14) dX0_has_13 rfl rfl ?_
      refine x_and1 (q := 15) dX0_has_14 rfl (by first | exact nn_dv (by omega) | omega) ?_
      refine x_ic (q := 16) dX0_has_15 rfl rfl ?_
      refine x_ic_ne (t := 23) (q := 19) dX0_has_16 rfl rfl (fun c_16 => ?_) (fun c_16 => ?_)
      · skip
        refine x_ic (q := 24) dX0_has_23 rfl rfl ?_
        exact x_zret dX0_has_24 rfl (by first | exact .inl rfl | exact .inr rfl | exact b2i_01 _) rfl (Nat.zero_le _) (retI_mk (by first | (rw [hasB, decide_eq_true ⟨by omega, by omega, by omega⟩]; rfl) | (rw [hasB, decide_eq_false (by omega)]; rfl)))
      · skip
        refine x_ic (q := 20) dX0_has_19 rfl rfl ?_
        refine x_goto (t := 24) dX0_has_20 rfl ?_
        exact x_zret dX0_has_24 rfl (by first | exact .inl rfl | exact .inr rfl | exact b2i_01 _) rfl (Nat.zero_le _) (retI_mk (by first | (rw [hasB, decide_eq_true ⟨by omega, by omega, by omega⟩]; rfl) | (rw [hasB, decide_eq_false (by omega)]; rfl)))
set_option maxHeartbeats 4000000 in
set_option maxRecDepth 100000 in
theorem c_isGood (hs : Ext sh) (hr : Rok rf) {s : Int} (h0 : 0 ≤ v 10 1) : Cv g mX0_isGood [aR 10, aI s] (sh, rf, v) (retI (b2i (hasB (v 10 1) s)) (sh, rf, v)) := by
  refine x_entry (ls := [some (aR 10), some (aI s)]) rfl rfl (Nat.le_of_ble_eq_true rfl) ?_
  refine x_al_n (q := 1) dX0_isGood_0 rfl rfl ?_
  refine x_getI (q := 4) dX0_isGood_1 rfl fX0_66 (hs _ _ rfl) rfl ?_
  refine x_il_n (q := 5) dX0_isGood_4 rfl rfl ?_
  refine x_SI (q := 8) dX0_isGood_5 rfl kX0_isGood_69 (c_has h0) rfl rfl (Nat.le_of_ble_eq_true rfl) ⟨rfl, rfl⟩ ⟨Nat.zero_le _, Nat.zero_le _⟩ ?_
  exact x_zret dX0_isGood_8 rfl (by first | exact .inl rfl | exact .inr rfl | exact b2i_01 _) rfl (Nat.zero_le _) (retI_mk (by rfl))
set_option maxHeartbeats 4000000 in
set_option maxRecDepth 100000 in
theorem c_arcsFrom (hs : Ext sh) (hr : Rok rf) {s : Int} : Cv g mX0_arcsFrom [aR 10, aI s] (sh, rf, v) (retI (cnt (fun w => !decide (endF v s w = -9)) 16) (sh, rf, v)) := by
  refine x_entry (ls := [some (aR 10), some (aI s), none, none]) rfl rfl (Nat.le_of_ble_eq_true rfl) ?_
  refine x_ic (q := 1) dX0_arcsFrom_0 rfl rfl ?_
  refine x_is2 (q := 2) dX0_arcsFrom_1 rfl rfl ?_
  refine x_ic (q := 3) dX0_arcsFrom_2 rfl rfl ?_
  refine x_is3 (q := 4) dX0_arcsFrom_3 rfl rfl ?_
  refine x_up (S := fun i => Wv g mX0_arcsFrom 0 0 4 [some (aR 10), some (aI s), some (aI (cnt (fun w => !decide (endF v s w = -9)) i)), some (aI (i : Int))] [] (sh, rf, v) (retI (cnt (fun w => !decide (endF v s w = -9)) 16) (sh, rf, v))) 16 ?_ ?_ 0 (by decide)
  · skip
    refine x_il_n (q := 5) dX0_arcsFrom_4 rfl rfl ?_
    refine x_bi (q := 7) dX0_arcsFrom_5 rfl rfl ?_
    refine x_ic_ge (t := 30) (q := 10) dX0_arcsFrom_7 rfl rfl (fun c_7 => ?_) (fun c_7 => ?_)
    · skip
      refine x_il_n (q := 31) dX0_arcsFrom_30 rfl rfl ?_
      exact x_iret dX0_arcsFrom_31 rfl rfl (Nat.zero_le _) (retI_mk (by rfl))
    · skip
      exact absurd (by decide) c_7
  · intro i hi ih
    have hb := cnt_rng (fun w => !decide (endF v s w = -9)) i
    refine x_il_n (q := 5) dX0_arcsFrom_4 rfl rfl ?_
    refine x_bi (q := 7) dX0_arcsFrom_5 rfl rfl ?_
    refine x_ic_ge (t := 30) (q := 10) dX0_arcsFrom_7 rfl rfl (fun c_7 => ?_) (fun c_7 => ?_)
    · skip
      exact absurd c_7 (by omega)
    · skip
      refine x_al_n (q := 11) dX0_arcsFrom_10 rfl rfl ?_
      refine x_il_n (q := 12) dX0_arcsFrom_11 rfl rfl ?_
      refine x_il_n (q := 13) dX0_arcsFrom_12 rfl rfl ?_
      refine x_VI (q := 16) (ci := 0) dX0_arcsFrom_13 rfl kX0_arcsFrom_73 (c_endOf hs hr) rfl rfl (hs _ _ rfl) (by decide) rfl (Nat.le_of_ble_eq_true rfl) ⟨rfl, rfl⟩ ⟨Nat.zero_le _, Nat.zero_le _⟩ ?_
      refine x_bi (q := 18) dX0_arcsFrom_16 rfl rfl ?_
      refine x_ic_eq (t := 24) (q := 21) dX0_arcsFrom_18 rfl rfl (fun c_18 => ?_) (fun c_18 => ?_)
      · skip
        rw [cnt_f (by simp [c_18])] at ih
        refine x_ii3 (q := 27) dX0_arcsFrom_24 rfl rfl ⟨by omega, by omega⟩ ?_
        refine x_goto (t := 4) dX0_arcsFrom_27 rfl ?_
        exact ih
      · skip
        rw [cnt_t (by simp [c_18])] at ih
        refine x_ii2 (q := 24) dX0_arcsFrom_21 rfl rfl ⟨by omega, by omega⟩ ?_
        refine x_ii3 (q := 27) dX0_arcsFrom_24 rfl rfl ⟨by omega, by omega⟩ ?_
        refine x_goto (t := 4) dX0_arcsFrom_27 rfl ?_
        exact ih
set_option maxHeartbeats 4000000 in
set_option maxRecDepth 100000 in
theorem c_wordWith (hs : Ext sh) (hr : Rok rf) {s t : Int} : Cv g mX0_wordWith [aR 10, aI s, aI t] (sh, rf, v) ((retI (fi (fun w => decide (tagF v s w = t)) 0 16) (sh, rf, v))) := by
  refine x_entry (ls := [some (aR 10), some (aI s), some (aI t), none]) rfl rfl (Nat.le_of_ble_eq_true rfl) ?_
  refine x_ic (q := 1) dX0_wordWith_0 rfl rfl ?_
  refine x_is3 (q := 2) dX0_wordWith_1 rfl rfl ?_
  refine x_up (S := fun i => ∀ k, i + k = 16 → Wv g mX0_wordWith 0 0 2 [some (aR 10), some (aI s), some (aI t), some (aI (i : Int))] [] (sh, rf, v) (retI (fi (fun w => decide (tagF v s w = t)) i k) (sh, rf, v))) 16 ?_ ?_ 0 (by decide) 16 rfl
  · intro k hk
    obtain rfl : k = 0 := by omega
    refine x_il_n (q := 3) dX0_wordWith_2 rfl rfl ?_
    refine x_bi (q := 5) dX0_wordWith_3 rfl rfl ?_
    refine x_ic_ge (t := 26) (q := 8) dX0_wordWith_5 rfl rfl (fun c_5 => ?_) (fun c_5 => ?_)
    · skip
      refine x_bi (q := 28) dX0_wordWith_26 rfl rfl ?_
      exact x_iret dX0_wordWith_28 rfl rfl (Nat.zero_le _) (retI_mk (by rfl))
    · skip
      exact absurd (by decide) c_5
  · intro i hi ih k hk
    obtain ⟨k, rfl⟩ : ∃ j, k = j + 1 := ⟨15 - i, by omega⟩
    have ih := ih k (by omega)
    refine x_il_n (q := 3) dX0_wordWith_2 rfl rfl ?_
    refine x_bi (q := 5) dX0_wordWith_3 rfl rfl ?_
    refine x_ic_ge (t := 26) (q := 8) dX0_wordWith_5 rfl rfl (fun c_5 => ?_) (fun c_5 => ?_)
    · skip
      exact absurd c_5 (by omega)
    · skip
      refine x_al_n (q := 9) dX0_wordWith_8 rfl rfl ?_
      refine x_il_n (q := 10) dX0_wordWith_9 rfl rfl ?_
      refine x_il_n (q := 11) dX0_wordWith_10 rfl rfl ?_
      refine x_VI (q := 14) (ci := 0) dX0_wordWith_11 rfl kX0_wordWith_76 (c_tagOf hs hr) rfl rfl (hs _ _ rfl) (by decide) rfl (Nat.le_of_ble_eq_true rfl) ⟨rfl, rfl⟩ ⟨Nat.zero_le _, Nat.zero_le _⟩ ?_
      refine x_il_n (q := 15) dX0_wordWith_14 rfl rfl ?_
      refine x_ic_ne (t := 20) (q := 18) dX0_wordWith_15 rfl rfl (fun c_15 => ?_) (fun c_15 => ?_)
      · skip
        rw [fi_f (by simp [c_15])]
        refine x_ii3 (q := 23) dX0_wordWith_20 rfl rfl ⟨by omega, by omega⟩ ?_
        refine x_goto (t := 2) dX0_wordWith_23 rfl ?_
        exact ih
      · skip
        rw [fi_t (by simp [c_15])]
        refine x_il_n (q := 19) dX0_wordWith_18 rfl rfl ?_
        exact x_iret dX0_wordWith_19 rfl rfl (Nat.zero_le _) (retI_mk (by rfl))
def folw (v : Nat → Nat → Int) (c : Nat) : Nat → Nat → Int → Int
  | 0, _, x => x
  | k + 1, i, x => if tagF v x (v c i) = -9 then -9 else folw v c k (i + 1) (endF v x (v c i))
set_option maxHeartbeats 4000000 in
set_option maxRecDepth 100000 in
theorem c_follow (hs : Ext sh) (hr : Rok rf) {s : Int} {c a n m : Nat} (hc0 : sh[c]? = some (0, m)) (hm : a + n ≤ m) (hm2 : m < 1000) : Cv g mX0_follow [aR 10, aI s, aR c, aI (a : Int), aI (n : Int)] (sh, rf, v) (retI (folw v c n a s) (sh, rf, v)) := by
  refine x_entry (ls := [some (aR 10), some (aI s), some (aR c), some (aI (a : Int)), some (aI (n : Int)), none, none]) rfl rfl (Nat.le_of_ble_eq_true rfl) ?_
  refine x_il_n (q := 1) dX0_follow_0 rfl rfl ?_
  refine x_if_lt (t := 13) (q := 4) dX0_follow_1 rfl rfl (fun c_1 => ?_) (fun c_1 => ?_)
  · skip
    exact absurd c_1 (by omega)
  · skip
    refine x_il_n (q := 5) dX0_follow_4 rfl rfl ?_
    refine x_il (q := 7) dX0_follow_5 rfl rfl ?_
    refine x_add (q := 8) dX0_follow_7 rfl ⟨by omega, by omega⟩ ?_
    refine x_al_n (q := 9) dX0_follow_8 rfl rfl ?_
    refine x_alen (q := 10) dX0_follow_9 rfl hc0 (by decide) (by omega) ?_
    refine x_ic_le (t := 16) (q := 13) dX0_follow_10 rfl rfl (fun c_10 => ?_) (fun c_10 => ?_)
    · skip
      refine x_il_n (q := 17) dX0_follow_16 rfl rfl ?_
      refine x_is5 (q := 19) dX0_follow_17 rfl rfl ?_
      refine x_il_n (q := 20) dX0_follow_19 rfl rfl ?_
      refine x_is6 (q := 22) dX0_follow_20 rfl rfl ?_
      have key : ∀ (k i : Nat) (x : Int), i + k = a + n → Wv g mX0_follow 0 0 22 [some (aR 10), some (aI s), some (aR c), some (aI (a : Int)), some (aI (n : Int)), some (aI x), some (aI (i : Int))] [] (sh, rf, v) (retI (folw v c k i x) (sh, rf, v)) := by
        intro k
        induction k with
        | zero =>
          intro i x hi
          refine x_il (q := 24) dX0_follow_22 rfl rfl ?_
          refine x_il_n (q := 25) dX0_follow_24 rfl rfl ?_
          refine x_il (q := 27) dX0_follow_25 rfl rfl ?_
          refine x_add (q := 28) dX0_follow_27 rfl ⟨by omega, by omega⟩ ?_
          refine x_ic_ge (t := 67) (q := 31) dX0_follow_28 rfl rfl (fun c_28 => ?_) (fun c_28 => ?_)
          · skip
            refine x_il (q := 69) dX0_follow_67 rfl rfl ?_
            exact x_iret dX0_follow_69 rfl rfl (Nat.zero_le _) (retI_mk (by rfl))
          · skip
            exact absurd (by omega) c_28
        | succ k ih =>
          intro i x hi
          refine x_il (q := 24) dX0_follow_22 rfl rfl ?_
          refine x_il_n (q := 25) dX0_follow_24 rfl rfl ?_
          refine x_il (q := 27) dX0_follow_25 rfl rfl ?_
          refine x_add (q := 28) dX0_follow_27 rfl ⟨by omega, by omega⟩ ?_
          refine x_ic_ge (t := 67) (q := 31) dX0_follow_28 rfl rfl (fun c_28 => ?_) (fun c_28 => ?_)
          · skip
            exact absurd c_28 (by omega)
          · skip
            refine x_al_n (q := 32) dX0_follow_31 rfl rfl ?_
            refine x_il (q := 34) dX0_follow_32 rfl rfl ?_
            refine x_al_n (q := 35) dX0_follow_34 rfl rfl ?_
            refine x_il (q := 37) dX0_follow_35 rfl rfl ?_
            refine x_ialde (q := 38) (z := v c i) dX0_follow_37 rfl (by first | exact hc0 | exact hs _ _ rfl) (by omega) (by omega) (by rw [Int.toNat_natCast]) ?_
            refine x_VI (q := 41) (ci := 0) dX0_follow_38 rfl kX0_follow_76 (c_tagOf hs hr) rfl rfl (by first | exact hc0 | exact hs _ _ rfl) (by decide) rfl (Nat.le_of_ble_eq_true rfl) ⟨rfl, rfl⟩ ⟨Nat.zero_le _, Nat.zero_le _⟩ ?_
            refine x_bi (q := 43) dX0_follow_41 rfl rfl ?_
            refine x_ic_ne (t := 49) (q := 46) dX0_follow_43 rfl rfl (fun c_43 => ?_) (fun c_43 => ?_)
            · skip
              refine x_al_n (q := 50) dX0_follow_49 rfl rfl ?_
              refine x_il (q := 52) dX0_follow_50 rfl rfl ?_
              refine x_al_n (q := 53) dX0_follow_52 rfl rfl ?_
              refine x_il (q := 55) dX0_follow_53 rfl rfl ?_
              refine x_ialde (q := 56) (z := v c i) dX0_follow_55 rfl (by first | exact hc0 | exact hs _ _ rfl) (by omega) (by omega) (by rw [Int.toNat_natCast]) ?_
              refine x_VI (q := 59) (ci := 0) dX0_follow_56 rfl kX0_follow_73 (c_endOf hs hr) rfl rfl (by first | exact hc0 | exact hs _ _ rfl) (by decide) rfl (Nat.le_of_ble_eq_true rfl) ⟨rfl, rfl⟩ ⟨Nat.zero_le _, Nat.zero_le _⟩ ?_
              refine x_is5 (q := 61) dX0_follow_59 rfl rfl ?_
              refine x_ii6 (q := 64) dX0_follow_61 rfl rfl ⟨by omega, by omega⟩ ?_
              refine x_goto (t := 22) dX0_follow_64 rfl ?_
              have h9 := ih (i + 1) (endF v x (v c i)) (by omega)
              unfold folw
              rw [if_neg (by omega)]
              exact h9
            · skip
              refine x_bi (q := 48) dX0_follow_46 rfl rfl ?_
              exact x_iret dX0_follow_48 rfl rfl (Nat.zero_le _) (retI_mk (by unfold folw; rw [if_pos (by omega)]))
      exact key n a s (by omega)
    · skip
      exact absurd (by omega) c_10
set_option maxHeartbeats 4000000 in
set_option maxRecDepth 100000 in
theorem c_leadOver  {c : Nat} {s w : Int} (hb : sh[c]? = some (4, 5)) (hv : VBan (v c 0) (v c 1) (v c 2)) (h0 : 0 ≤ s) (h1 : s < nst (v c 0) (v c 1) (v c 2)) (h2 : 0 ≤ w) (h3 : 0 ≤ v c 4) (h4 : v c 4 ≤ 20) : Cv g mX0_leadOver [aR c, aI s, aI w] (sh, rf, v) (retI (LO (v c 0) (v c 1) (v c 2) w (v c 4).toNat s) (sh, rf, v)) := by
  have key : ∀ (k : Nat) (x : Int), k ≤ 20 → (x = -9 ∨ (0 ≤ x ∧ x < nst (v c 0) (v c 1) (v c 2))) → Wv g mX0_leadOver 0 0 10 [some (aR c), some (aI s), some (aI w), some (aI x), some (aI ((k : Int) - 1))] [] (sh, rf, v) (retI (LO (v c 0) (v c 1) (v c 2) w k x) (sh, rf, v)) := by
    intro k
    induction k with
    | zero =>
      intro x hk hx
      refine x_il (q := 12) dX0_leadOver_10 rfl rfl ?_
      refine x_if_lt (t := 39) (q := 15) dX0_leadOver_12 rfl rfl (fun c_12 => ?_) (fun c_12 => ?_)
      · skip
        refine x_il_n (q := 40) dX0_leadOver_39 rfl rfl ?_
        exact x_iret dX0_leadOver_40 rfl rfl (Nat.zero_le _) (retI_mk (by rfl))
      · skip
        exact absurd (by decide) c_12
    | succ k ih =>
      intro x hk hx
      refine x_il (q := 12) dX0_leadOver_10 rfl rfl ?_
      refine x_if_lt (t := 39) (q := 15) dX0_leadOver_12 rfl rfl (fun c_12 => ?_) (fun c_12 => ?_)
      · skip
        exact absurd c_12 (by omega)
      · skip
        refine x_il_n (q := 16) dX0_leadOver_15 rfl rfl ?_
        refine x_bi (q := 18) dX0_leadOver_16 rfl rfl ?_
        refine x_ic_eq (t := 39) (q := 21) dX0_leadOver_18 rfl rfl (fun c_18 => ?_) (fun c_18 => ?_)
        · skip
          refine x_il_n (q := 40) dX0_leadOver_39 rfl rfl ?_
          exact x_iret dX0_leadOver_40 rfl rfl (Nat.zero_le _) (retI_mk (by unfold LO; rw [if_pos c_18]; exact c_18))
        · skip
          refine x_al_n (q := 22) dX0_leadOver_21 rfl rfl ?_
          refine x_il_n (q := 23) dX0_leadOver_22 rfl rfl ?_
          refine x_il_n (q := 24) dX0_leadOver_23 rfl rfl ?_
          refine x_il (q := 26) dX0_leadOver_24 rfl rfl ?_
          refine x_shr (q := 27) dX0_leadOver_26 rfl h2 (by omega) (by omega) ?_
          rw [show (((k + 1 : Nat) : Int) - 1).toNat = k by omega]
          refine x_ic (q := 28) dX0_leadOver_27 rfl rfl ?_
          refine x_and1 (q := 29) dX0_leadOver_28 rfl (Int.ediv_nonneg h2 (Int.le_of_lt (pw_pos k))) ?_
          refine x_VI (q := 32) (ci := 1) dX0_leadOver_29 rfl kX0_leadOver_99 (c_lead hb hv (by omega) (by omega) (by omega)) rfl rfl hb (by decide) rfl (Nat.le_of_ble_eq_true rfl) ⟨rfl, rfl⟩ ⟨Nat.zero_le _, Nat.zero_le _⟩ ?_
          have hr0 := stp_rng (b := w / 2 ^ k % 2) hv (show 0 ≤ x by omega) (by omega)
          refine x_is3 (q := 33) dX0_leadOver_32 rfl rfl ?_
          refine x_ii4 (q := 36) dX0_leadOver_33 rfl rfl ⟨by omega, by omega⟩ ?_
          refine x_goto (t := 10) dX0_leadOver_36 rfl ?_
          unfold LO
          rw [if_neg c_18]
          have h9 := ih _ (by omega) hr0
          rw [show ((k + 1 : Nat) : Int) - 1 + -1 = (k : Int) - 1 by omega]
          exact h9
  refine x_entry (ls := [some (aR c), some (aI s), some (aI w), none, none]) rfl rfl (Nat.le_of_ble_eq_true rfl) ?_
  refine x_il_n (q := 1) dX0_leadOver_0 rfl rfl ?_
  refine x_is3 (q := 2) dX0_leadOver_1 rfl rfl ?_
  refine x_al_n (q := 3) dX0_leadOver_2 rfl rfl ?_
  refine x_getI (q := 6) dX0_leadOver_3 rfl fX0_96 hb rfl ?_
  refine x_ic (q := 7) dX0_leadOver_6 rfl rfl ?_
  refine x_sub (q := 8) dX0_leadOver_7 rfl ⟨by omega, by omega⟩ ?_
  refine x_is4 (q := 10) dX0_leadOver_8 rfl rfl ?_
  have h9 := key (v c 4).toNat s (by omega) (.inr ⟨h0, h1⟩)
  rw [Int.toNat_of_nonneg h3] at h9
  exact h9
def rowE (c : Cfg) (j : Nat) : Int := eT c (j / 16) (j % 16)
set_option maxHeartbeats 4000000 in
set_option maxRecDepth 100000 in
theorem c_setEnds (hs : Ext sh) (hr : Rok rf) {c : Nat} (hb : sh[c]? = some (4, 5)) (hc11 : c ≠ 11) (hv : Vld (banOf v c)) (hn : v 10 0 = nst (v c 0) (v c 1) (v c 2)) : Cv g mX0_setEnds [aR 10, aR c] (sh, rf, v) (putL (fun u => (∀ j, j < 112 → u 11 j = rowE (banOf v c) j) ∧ ∀ d, d ≠ 11 → u d = v d) sh rf) := by
  obtain ⟨hv, hp1, hp2, hq1, hq2⟩ := hv
  dsimp only [banOf] at hv hp1 hp2 hq1 hq2
  have hn2 := nst_rng hv
  refine x_entry (ls := [some (aR 10), some (aR c), none, none, none]) rfl rfl (Nat.le_of_ble_eq_true rfl) ?_
  refine x_ic (q := 1) dX0_setEnds_0 rfl rfl ?_
  refine x_is2 (q := 2) dX0_setEnds_1 rfl rfl ?_
  refine x_up (S := fun s => ∀ (u : Nat → Nat → Int) (o1 o2 : Option AV), ((∀ j, j < 16 * s → u 11 j = rowE (banOf v c) j) ∧ ∀ d, d ≠ 11 → u d = v d) → Wv g mX0_setEnds 0 0 2 [some (aR 10), some (aR c), some (aI (s : Int)), o1, o2] [] (sh, rf, u) (putL (fun u => (∀ j, j < 112 → u 11 j = rowE (banOf v c) j) ∧ ∀ d, d ≠ 11 → u d = v d) sh rf)) 7 ?_ ?_ 0 (by decide) v none none ⟨fun j hj => by omega, fun _ _ => rfl⟩
  · intro u o1 o2 ⟨hu1, hu2⟩
    refine x_il_n (q := 3) dX0_setEnds_2 rfl rfl ?_
    refine x_bi (q := 5) dX0_setEnds_3 rfl rfl ?_
    refine x_ic_ge (t := 78) (q := 8) dX0_setEnds_5 rfl rfl (fun c_5 => ?_) (fun c_5 => ?_)
    · skip
      exact x_vret dX0_setEnds_78 rfl rfl (Nat.zero_le _) (by exact ⟨rfl, u, rfl, fun j hj => hu1 j (by omega), hu2⟩)
    · skip
      exact absurd (by decide) c_5
  · intro s hs7 ihs u o1 o2 ⟨hu1, hu2⟩
    refine x_il_n (q := 3) dX0_setEnds_2 rfl rfl ?_
    refine x_bi (q := 5) dX0_setEnds_3 rfl rfl ?_
    refine x_ic_ge (t := 78) (q := 8) dX0_setEnds_5 rfl rfl (fun c_5 => ?_) (fun c_5 => ?_)
    · skip
      exact absurd c_5 (by omega)
    · skip
      refine x_ic (q := 9) dX0_setEnds_8 rfl rfl ?_
      refine x_is3 (q := 10) dX0_setEnds_9 rfl rfl ?_
      refine x_up (S := fun w => ∀ (u : Nat → Nat → Int) (o2 : Option AV), ((∀ j, j < 16 * s + w → u 11 j = rowE (banOf v c) j) ∧ ∀ d, d ≠ 11 → u d = v d) → Wv g mX0_setEnds 0 0 10 [some (aR 10), some (aR c), some (aI (s : Int)), some (aI (w : Int)), o2] [] (sh, rf, u) (putL (fun u => (∀ j, j < 112 → u 11 j = rowE (banOf v c) j) ∧ ∀ d, d ≠ 11 → u d = v d) sh rf)) 16 ?_ ?_ 0 (by decide) u o2 ⟨fun j hj => hu1 j (by omega), hu2⟩
      · intro u o2 ⟨hu1, hu2⟩
        refine x_il_n (q := 11) dX0_setEnds_10 rfl rfl ?_
        refine x_bi (q := 13) dX0_setEnds_11 rfl rfl ?_
        refine x_ic_ge (t := 72) (q := 16) dX0_setEnds_13 rfl rfl (fun c_13 => ?_) (fun c_13 => ?_)
        · skip
          refine x_ii2 (q := 75) dX0_setEnds_72 rfl rfl ⟨by omega, by omega⟩ ?_
          refine x_goto (t := 2) dX0_setEnds_75 rfl ?_
          exact ihs u _ _ ⟨fun j hj => hu1 j (by omega), hu2⟩
        · skip
          exact absurd (by decide) c_13
      · intro w hw16 ih u o2 ⟨hu1, hu2⟩
        refine x_il_n (q := 11) dX0_setEnds_10 rfl rfl ?_
        refine x_bi (q := 13) dX0_setEnds_11 rfl rfl ?_
        refine x_ic_ge (t := 72) (q := 16) dX0_setEnds_13 rfl rfl (fun c_13 => ?_) (fun c_13 => ?_)
        · skip
          exact absurd c_13 (by omega)
        · skip
          refine x_il_n (q := 17) dX0_setEnds_16 rfl rfl ?_
          refine x_al_n (q := 18) dX0_setEnds_17 rfl rfl ?_
          refine x_getIe (q := 21) (z := nst (v c 0) (v c 1) (v c 2)) dX0_setEnds_18 rfl fX0_36 (by first | exact hs _ _ rfl | exact hb) rfl (by rw [hu2 10 (by decide)]; exact hn) ?_
          refine x_ic_ge (t := 36) (q := 24) dX0_setEnds_21 rfl rfl (fun c_21 => ?_) (fun c_21 => ?_)
          · skip
            have hT : rowE (banOf v c) (16 * s + w) = -9 := eT_o1 (c := banOf v c) (by show ¬ (((16 * s + w) / 16 : Nat) : Int) < nst (v c 0) (v c 1) (v c 2); omega)
            refine x_ic (q := 37) dX0_setEnds_36 rfl rfl ?_
            refine x_is4 (q := 39) dX0_setEnds_37 rfl rfl ?_
            refine x_al_n (q := 40) dX0_setEnds_39 rfl rfl ?_
            refine x_getR (q := 43) (o := some (11)) dX0_setEnds_40 rfl fX0_9 (by first | exact hs _ _ rfl | exact hb) rfl (hr _ _ _ rfl) ?_
            refine x_il_n (q := 44) dX0_setEnds_43 rfl rfl ?_
            refine x_bi (q := 46) dX0_setEnds_44 rfl rfl ?_
            refine x_mul (q := 47) dX0_setEnds_46 rfl ⟨by omega, by omega⟩ ?_
            refine x_il_n (q := 48) dX0_setEnds_47 rfl rfl ?_
            refine x_add (q := 49) dX0_setEnds_48 rfl ⟨by omega, by omega⟩ ?_
            refine x_il (q := 51) dX0_setEnds_49 rfl rfl ?_
            refine x_if_eq (t := 63) (q := 54) dX0_setEnds_51 rfl rfl (fun c_51 => ?_) (fun c_51 => ?_)
            · skip
              refine x_bi (q := 65) dX0_setEnds_63 rfl rfl ?_
              rw [← hT]
              refine x_iast (q := 66) dX0_setEnds_65 rfl (by first | exact hs _ _ rfl | exact hb) (by omega) (by omega) ?_
              refine x_ii3 (q := 69) dX0_setEnds_66 rfl rfl ⟨by omega, by omega⟩ ?_
              refine x_goto (t := 10) dX0_setEnds_69 rfl ?_
              refine ih _ _ ⟨fun j hj => ?_, fun d hd => ?_⟩
              · rw [up_at]
                by_cases hj2 : j = 16 * s + w
                · rw [if_pos (by omega), hj2]
                · rw [if_neg (by omega)]
                  exact hu1 j (by omega)
              · rw [up_n _ _ _ hd]
                exact hu2 d hd
            · skip
              exact absurd c_51 (by decide)
          · skip
            refine x_il_n (q := 25) dX0_setEnds_24 rfl rfl ?_
            refine x_al_n (q := 26) dX0_setEnds_25 rfl rfl ?_
            refine x_VI (q := 29) (ci := 1) dX0_setEnds_26 rfl kX0_setEnds_89 (c_wordCount hb (by rw [hu2 c hc11]; omega) (by rw [hu2 c hc11]; omega)) rfl rfl (by first | exact hs _ _ rfl | exact hb) (by decide) rfl (Nat.le_of_ble_eq_true rfl) ⟨rfl, rfl⟩ ⟨Nat.zero_le _, Nat.zero_le _⟩ ?_
            rw [show u c 4 = v c 4 by rw [hu2 c hc11]]
            refine x_ic_ge (t := 36) (q := 32) dX0_setEnds_29 rfl rfl (fun c_29 => ?_) (fun c_29 => ?_)
            · skip
              have hT : rowE (banOf v c) (16 * s + w) = -9 := eT_o2 (c := banOf v c) (by show ¬ (((16 * s + w) % 16 : Nat) : Int) < 2 ^ (v c 4).toNat; rw [show (16 * s + w) % 16 = w by omega]; omega)
              refine x_ic (q := 37) dX0_setEnds_36 rfl rfl ?_
              refine x_is4 (q := 39) dX0_setEnds_37 rfl rfl ?_
              refine x_al_n (q := 40) dX0_setEnds_39 rfl rfl ?_
              refine x_getR (q := 43) (o := some (11)) dX0_setEnds_40 rfl fX0_9 (by first | exact hs _ _ rfl | exact hb) rfl (hr _ _ _ rfl) ?_
              refine x_il_n (q := 44) dX0_setEnds_43 rfl rfl ?_
              refine x_bi (q := 46) dX0_setEnds_44 rfl rfl ?_
              refine x_mul (q := 47) dX0_setEnds_46 rfl ⟨by omega, by omega⟩ ?_
              refine x_il_n (q := 48) dX0_setEnds_47 rfl rfl ?_
              refine x_add (q := 49) dX0_setEnds_48 rfl ⟨by omega, by omega⟩ ?_
              refine x_il (q := 51) dX0_setEnds_49 rfl rfl ?_
              refine x_if_eq (t := 63) (q := 54) dX0_setEnds_51 rfl rfl (fun c_51 => ?_) (fun c_51 => ?_)
              · skip
                refine x_bi (q := 65) dX0_setEnds_63 rfl rfl ?_
                rw [← hT]
                refine x_iast (q := 66) dX0_setEnds_65 rfl (by first | exact hs _ _ rfl | exact hb) (by omega) (by omega) ?_
                refine x_ii3 (q := 69) dX0_setEnds_66 rfl rfl ⟨by omega, by omega⟩ ?_
                refine x_goto (t := 10) dX0_setEnds_69 rfl ?_
                refine ih _ _ ⟨fun j hj => ?_, fun d hd => ?_⟩
                · rw [up_at]
                  by_cases hj2 : j = 16 * s + w
                  · rw [if_pos (by omega), hj2]
                  · rw [if_neg (by omega)]
                    exact hu1 j (by omega)
                · rw [up_n _ _ _ hd]
                  exact hu2 d hd
              · skip
                exact absurd c_51 (by decide)
            · skip
              have hT : rowE (banOf v c) (16 * s + w) = LO (v c 0) (v c 1) (v c 2) (w : Int) (v c 4).toNat (s : Int) := by unfold rowE; rw [show (16 * s + w) % 16 = w by omega, show (16 * s + w) / 16 = s by omega]; exact eT_in (c := banOf v c) (show (s : Int) < nst (v c 0) (v c 1) (v c 2) by omega) (show (w : Int) < 2 ^ (v c 4).toNat by omega)
              refine x_ic (q := 33) dX0_setEnds_32 rfl rfl ?_
              refine x_goto (t := 37) dX0_setEnds_33 rfl ?_
              refine x_is4 (q := 39) dX0_setEnds_37 rfl rfl ?_
              refine x_al_n (q := 40) dX0_setEnds_39 rfl rfl ?_
              refine x_getR (q := 43) (o := some (11)) dX0_setEnds_40 rfl fX0_9 (by first | exact hs _ _ rfl | exact hb) rfl (hr _ _ _ rfl) ?_
              refine x_il_n (q := 44) dX0_setEnds_43 rfl rfl ?_
              refine x_bi (q := 46) dX0_setEnds_44 rfl rfl ?_
              refine x_mul (q := 47) dX0_setEnds_46 rfl ⟨by omega, by omega⟩ ?_
              refine x_il_n (q := 48) dX0_setEnds_47 rfl rfl ?_
              refine x_add (q := 49) dX0_setEnds_48 rfl ⟨by omega, by omega⟩ ?_
              refine x_il (q := 51) dX0_setEnds_49 rfl rfl ?_
              refine x_if_eq (t := 63) (q := 54) dX0_setEnds_51 rfl rfl (fun c_51 => ?_) (fun c_51 => ?_)
              · skip
                exact absurd c_51 (by decide)
              · skip
                refine x_al_n (q := 55) dX0_setEnds_54 rfl rfl ?_
                refine x_il_n (q := 56) dX0_setEnds_55 rfl rfl ?_
                refine x_il_n (q := 57) dX0_setEnds_56 rfl rfl ?_
                refine x_SI (q := 60) dX0_setEnds_57 rfl kX0_setEnds_92 (c_leadOver hb (by rw [hu2 c hc11]; exact hv) (by omega) (by rw [hu2 c hc11]; omega) (by omega) (by rw [hu2 c hc11]; omega) (by rw [hu2 c hc11]; omega)) rfl rfl (Nat.le_of_ble_eq_true rfl) ⟨rfl, rfl⟩ ⟨Nat.zero_le _, Nat.zero_le _⟩ ?_
                rw [show LO (u c 0) (u c 1) (u c 2) (w : Int) (u c 4).toNat (s : Int) = rowE (banOf v c) (16 * s + w) by rw [hu2 c hc11, hT]]
                refine x_goto (t := 65) dX0_setEnds_60 rfl ?_
                refine x_iast (q := 66) dX0_setEnds_65 rfl (by first | exact hs _ _ rfl | exact hb) (by omega) (by omega) ?_
                refine x_ii3 (q := 69) dX0_setEnds_66 rfl rfl ⟨by omega, by omega⟩ ?_
                refine x_goto (t := 10) dX0_setEnds_69 rfl ?_
                refine ih _ _ ⟨fun j hj => ?_, fun d hd => ?_⟩
                · rw [up_at]
                  by_cases hj2 : j = 16 * s + w
                  · rw [if_pos (by omega), hj2]
                  · rw [if_neg (by omega)]
                    exact hu1 j (by omega)
                · rw [up_n _ _ _ hd]
                  exact hu2 d hd
end ARC

/-! ===== Arcs: the window ===== -/
def anyN (f : Nat → Bool) : Nat → Bool
  | 0 => false
  | k + 1 => anyN f k || f k
theorem anyN_t {f : Nat → Bool} {i : Nat} (h : f i = true) : ∀ {n}, i < n → anyN f n = true
  | 0, hi => absurd hi (Nat.not_lt_zero _)
  | n + 1, hi => by
    unfold anyN
    by_cases hn : i = n
    · rw [← hn, h]; simp
    · rw [anyN_t h (by omega)]; rfl
theorem anyN_f {f : Nat → Bool} {i : Nat} (h : f i = false) (h2 : anyN f i = false) : anyN f (i + 1) = false := by
  show (anyN f i || f i) = false
  rw [h, h2]; rfl
theorem anyN_0 {f : Nat → Bool} : ∀ {n}, anyN f n = false → ∀ i, i < n → f i = false
  | 0, _, i, hi => absurd hi (Nat.not_lt_zero _)
  | n + 1, h, i, hi => by
    unfold anyN at h
    simp at h
    by_cases hn : i = n
    · rw [hn]; exact h.2
    · exact anyN_0 h.1 i (by omega)
theorem anyN_cong {f g : Nat → Bool} : ∀ {n}, (∀ i, i < n → f i = g i) → anyN f n = anyN g n
  | 0, _ => rfl
  | n + 1, h => by
    unfold anyN
    rw [anyN_cong (fun i hi => h i (by omega)), h n (by omega)]
theorem anyN_ex {f : Nat → Bool} : ∀ {n}, anyN f n = true → ∃ i, i < n ∧ f i = true
  | 0, h => by cases h
  | n + 1, h => by
    unfold anyN at h
    rcases Bool.or_eq_true _ _ ▸ h with h | h
    · obtain ⟨i, h1, h2⟩ := anyN_ex h
      exact ⟨i, by omega, h2⟩
    · exact ⟨n, by omega, h⟩
/-- two arcs with tags over one word that can go on alike, by mu -/
def GOc (T E : Nat → Nat → Int) (mu : Nat → Nat → Bool) (a b w : Nat) : Bool := !decide (T a w = -9) && (!decide (T b w = -9) && (decide (0 ≤ E a w ∧ E a w < 7) && inS (mu (E a w).toNat) 7 (E b w)))
def dB (T E : Nat → Nat → Int) (mu : Nat → Nat → Bool) (a b w : Nat) : Bool := GOc T E mu a b w && !decide (T a w = T b w)
def dbt (T E : Nat → Nat → Int) (mu : Nat → Nat → Bool) (n : Nat) : Bool := anyN (fun a => anyN (fun b => anyN (dB T E mu a b) 16) a) n
def muN (T E : Nat → Nat → Int) (mu : Nat → Nat → Bool) (a b : Nat) : Bool := anyN (GOc T E mu a b) 16
def muK (T E : Nat → Nat → Int) (f : Nat → Bool) (n : Nat) : Nat → Nat → Nat → Bool
  | 0 => fun _ y => decide (y < n) && f y
  | m + 1 => muN T E (muK T E f n m)
def wnC (T E : Nat → Nat → Int) (f : Nat → Bool) (n : Nat) : Int := if mk f n = 0 then -9 else fi (fun m => !dbt T E (muK T E f n m) n) 0 4
def RowTT (v : Nat → Nat → Int) (T : Nat → Nat → Int) : Prop := ∀ j, j < 112 → v 12 j = T (j / 16) (j % 16)
def RowM (v : Nat → Nat → Int) (mu : Nat → Nat → Bool) : Prop := ∀ x, x < 7 → v 13 x = mk (mu x) 7
theorem tagF_e {v : Nat → Nat → Int} {T : Nat → Nat → Int} (h : RowTT v T) {s w : Nat} (hs : s < 7) (hw : w < 16) : tagF v s w = T s w := by
  unfold tagF
  rw [if_pos (by omega), show ((s : Int) * 16 + w).toNat = 16 * s + w by omega, h _ (by omega), show (16 * s + w) / 16 = s by omega, show (16 * s + w) % 16 = w by omega]
theorem mk_pad {f : Nat → Bool} {n : Nat} : ∀ k, mk (fun y => decide (y < n) && f y) (n + k) = mk f n
  | 0 => mk_cong (fun s hs => by rw [decide_eq_true (show s < n from hs)]; rfl)
  | k + 1 => by
    show mk (fun y => decide (y < n) && f y) (n + k) + (if (decide (n + k < n) && f (n + k)) = true then 2 ^ (n + k) else 0) = _
    rw [mk_pad k, decide_eq_false (by omega)]
    simp
theorem mk_7 {f : Nat → Bool} {n : Nat} (h : n ≤ 7) : mk (fun y => decide (y < n) && f y) 7 = mk f n := by
  have := mk_pad (f := f) (n := n) (7 - n)
  rw [show n + (7 - n) = 7 by omega] at this
  exact this
section WIN
variable {g : GL} {sh : List (Nat × Nat)} {rf : Nat → Nat → Option Nat} {v : Nat → Nat → Int} {E T : Nat → Nat → Int} {f : Nat → Bool} {n : Nat} {mu : Nat → Nat → Bool}

set_option maxHeartbeats 4000000 in
set_option maxRecDepth 100000 in
theorem c_goOnAlike (hs : Ext sh) (hr : Rok rf) {a b w : Nat} (ha : a < 7) (hb : b < 7) (hw : w < 16) (hE : RowE v E) (hT : RowTT v T) (hM : RowM v mu) : Cv g mX0_goOnAlike [aR 10, aI (a : Int), aI (b : Int), aI (w : Int)] (sh, rf, v) (retI (b2i (GOc T E mu a b w)) (sh, rf, v)) := by
  refine x_entry (ls := [some (aR 10), some (aI (a : Int)), some (aI (b : Int)), some (aI (w : Int)), none]) rfl rfl (Nat.le_of_ble_eq_true rfl) ?_
  refine x_al_n (q := 1) dX0_goOnAlike_0 rfl rfl ?_
  refine x_il_n (q := 2) dX0_goOnAlike_1 rfl rfl ?_
  refine x_il_n (q := 3) dX0_goOnAlike_2 rfl rfl ?_
  refine x_VI (q := 6) (ci := 0) dX0_goOnAlike_3 rfl kX0_goOnAlike_76 (c_tagOf hs hr) rfl rfl (hs _ _ rfl) (by decide) rfl (Nat.le_of_ble_eq_true rfl) ⟨rfl, rfl⟩ ⟨Nat.zero_le _, Nat.zero_le _⟩ ?_
  rw [tagF_e hT ha hw]
  refine x_bi (q := 8) dX0_goOnAlike_6 rfl rfl ?_
  refine x_ic_eq (t := 22) (q := 11) dX0_goOnAlike_8 rfl rfl (fun c_8 => ?_) (fun c_8 => ?_)
  · skip
    have hG : GOc T E mu a b w = false := by unfold GOc; simp [c_8]
    refine x_ic (q := 23) dX0_goOnAlike_22 rfl rfl ?_
    exact x_zret dX0_goOnAlike_23 rfl (by first | exact .inl rfl | exact .inr rfl | exact b2i_01 _) rfl (Nat.zero_le _) (retI_mk (by rw [hG]; rfl))
  · skip
    refine x_al_n (q := 12) dX0_goOnAlike_11 rfl rfl ?_
    refine x_il_n (q := 13) dX0_goOnAlike_12 rfl rfl ?_
    refine x_il_n (q := 14) dX0_goOnAlike_13 rfl rfl ?_
    refine x_VI (q := 17) (ci := 0) dX0_goOnAlike_14 rfl kX0_goOnAlike_76 (c_tagOf hs hr) rfl rfl (hs _ _ rfl) (by decide) rfl (Nat.le_of_ble_eq_true rfl) ⟨rfl, rfl⟩ ⟨Nat.zero_le _, Nat.zero_le _⟩ ?_
    rw [tagF_e hT hb hw]
    refine x_bi (q := 19) dX0_goOnAlike_17 rfl rfl ?_
    refine x_ic_ne (t := 24) (q := 22) dX0_goOnAlike_19 rfl rfl (fun c_19 => ?_) (fun c_19 => ?_)
    · skip
      refine x_al_n (q := 25) dX0_goOnAlike_24 rfl rfl ?_
      refine x_il_n (q := 26) dX0_goOnAlike_25 rfl rfl ?_
      refine x_il_n (q := 27) dX0_goOnAlike_26 rfl rfl ?_
      refine x_VI (q := 30) (ci := 0) dX0_goOnAlike_27 rfl kX0_goOnAlike_73 (c_endOf hs hr) rfl rfl (hs _ _ rfl) (by decide) rfl (Nat.le_of_ble_eq_true rfl) ⟨rfl, rfl⟩ ⟨Nat.zero_le _, Nat.zero_le _⟩ ?_
      rw [endF_e hE ha hw]
      refine x_is4 (q := 32) dX0_goOnAlike_30 rfl rfl ?_
      refine x_il (q := 34) dX0_goOnAlike_32 rfl rfl ?_
      refine x_if_lt (t := 67) (q := 37) dX0_goOnAlike_34 rfl rfl (fun c_34 => ?_) (fun c_34 => ?_)
      · skip
        have hG : GOc T E mu a b w = false := by unfold GOc; rw [decide_eq_false (p := 0 ≤ E a w ∧ E a w < 7) (by omega)]; simp
        refine x_ic (q := 68) dX0_goOnAlike_67 rfl rfl ?_
        exact x_zret dX0_goOnAlike_68 rfl (by first | exact .inl rfl | exact .inr rfl | exact b2i_01 _) rfl (Nat.zero_le _) (retI_mk (by rw [hG]; rfl))
      · skip
        refine x_il (q := 39) dX0_goOnAlike_37 rfl rfl ?_
        refine x_bi (q := 41) dX0_goOnAlike_39 rfl rfl ?_
        refine x_ic_ge (t := 67) (q := 44) dX0_goOnAlike_41 rfl rfl (fun c_41 => ?_) (fun c_41 => ?_)
        · skip
          have hG : GOc T E mu a b w = false := by unfold GOc; rw [decide_eq_false (p := 0 ≤ E a w ∧ E a w < 7) (by omega)]; simp
          refine x_ic (q := 68) dX0_goOnAlike_67 rfl rfl ?_
          exact x_zret dX0_goOnAlike_68 rfl (by first | exact .inl rfl | exact .inr rfl | exact b2i_01 _) rfl (Nat.zero_le _) (retI_mk (by rw [hG]; rfl))
        · skip
          refine x_al_n (q := 45) dX0_goOnAlike_44 rfl rfl ?_
          refine x_getR (q := 48) (o := some (13)) dX0_goOnAlike_45 rfl fX0_18 (hs _ _ rfl) rfl (hr _ _ _ rfl) ?_
          refine x_il (q := 50) dX0_goOnAlike_48 rfl rfl ?_
          refine x_ialde (q := 51) (z := mk (mu (E a w).toNat) 7) dX0_goOnAlike_50 rfl (hs _ _ rfl) (by omega) (by omega) (hM _ (by omega)) ?_
          refine x_al_n (q := 52) dX0_goOnAlike_51 rfl rfl ?_
          refine x_il_n (q := 53) dX0_goOnAlike_52 rfl rfl ?_
          refine x_il_n (q := 54) dX0_goOnAlike_53 rfl rfl ?_
          refine x_VI (q := 57) (ci := 0) dX0_goOnAlike_54 rfl kX0_goOnAlike_73 (c_endOf hs hr) rfl rfl (hs _ _ rfl) (by decide) rfl (Nat.le_of_ble_eq_true rfl) ⟨rfl, rfl⟩ ⟨Nat.zero_le _, Nat.zero_le _⟩ ?_
          rw [endF_e hE hb hw]
          refine x_SI (q := 60) dX0_goOnAlike_57 rfl kX0_goOnAlike_69 (c_has (mk_rng _ 7).1) rfl rfl (Nat.le_of_ble_eq_true rfl) ⟨rfl, rfl⟩ ⟨Nat.zero_le _, Nat.zero_le _⟩ ?_
          rw [has_mk (by decide)]
          refine x_if_eq (t := 67) (q := 63) dX0_goOnAlike_60 rfl rfl (fun c_60 => ?_) (fun c_60 => ?_)
          · skip
            have hG : GOc T E mu a b w = false := by unfold GOc; rw [b2i_0.mp c_60]; simp
            refine x_ic (q := 68) dX0_goOnAlike_67 rfl rfl ?_
            exact x_zret dX0_goOnAlike_68 rfl (by first | exact .inl rfl | exact .inr rfl | exact b2i_01 _) rfl (Nat.zero_le _) (retI_mk (by rw [hG]; rfl))
          · skip
            have hG : GOc T E mu a b w = true := by unfold GOc; rw [b2i_n0.mp c_60, decide_eq_true (p := 0 ≤ E a w ∧ E a w < 7) (by omega)]; simp [c_8, c_19]
            refine x_ic (q := 64) dX0_goOnAlike_63 rfl rfl ?_
            refine x_goto (t := 68) dX0_goOnAlike_64 rfl ?_
            exact x_zret dX0_goOnAlike_68 rfl (by first | exact .inl rfl | exact .inr rfl | exact b2i_01 _) rfl (Nat.zero_le _) (retI_mk (by rw [hG]; rfl))
    · skip
      have hG : GOc T E mu a b w = false := by unfold GOc; simp [c_19]
      refine x_ic (q := 23) dX0_goOnAlike_22 rfl rfl ?_
      exact x_zret dX0_goOnAlike_23 rfl (by first | exact .inl rfl | exact .inr rfl | exact b2i_01 _) rfl (Nat.zero_le _) (retI_mk (by rw [hG]; rfl))
set_option maxHeartbeats 4000000 in
set_option maxRecDepth 100000 in
theorem c_isDoubtful (hs : Ext sh) (hr : Rok rf) (hE : RowE v E) (hT : RowTT v T) (hM : RowM v mu) (hst : v 10 0 = (n : Int)) (hn : n ≤ 7) : Cv g mX0_isDoubtful [aR 10] (sh, rf, v) (retI (b2i (dbt T E mu n)) (sh, rf, v)) := by
  refine x_entry (ls := [some (aR 10), none, none, none]) rfl rfl (Nat.le_of_ble_eq_true rfl) ?_
  refine x_ic (q := 1) dX0_isDoubtful_0 rfl rfl ?_
  refine x_is1 (q := 2) dX0_isDoubtful_1 rfl rfl ?_
  refine x_up (S := fun a => ∀ o1 o2 : Option AV, anyN (fun a => anyN (fun b => anyN (dB T E mu a b) 16) a) a = false → Wv g mX0_isDoubtful 0 0 2 [some (aR 10), some (aI (a : Int)), o1, o2] [] (sh, rf, v) (retI (b2i (dbt T E mu n)) (sh, rf, v))) n ?_ ?_ 0 (Nat.zero_le _) none none rfl
  · intro o1 o2 h1
    refine x_il_n (q := 3) dX0_isDoubtful_2 rfl rfl ?_
    refine x_al_n (q := 4) dX0_isDoubtful_3 rfl rfl ?_
    refine x_getIe (q := 7) (z := (n : Int)) dX0_isDoubtful_4 rfl fX0_36 (hs _ _ rfl) rfl (hst) ?_
    refine x_ic_ge (t := 70) (q := 10) dX0_isDoubtful_7 rfl rfl (fun c_7 => ?_) (fun c_7 => ?_)
    · skip
      refine x_ic (q := 71) dX0_isDoubtful_70 rfl rfl ?_
      exact x_zret dX0_isDoubtful_71 rfl (by first | exact .inl rfl | exact .inr rfl | exact b2i_01 _) rfl (Nat.zero_le _) (retI_mk (by rw [show dbt T E mu n = false from h1]; rfl))
    · skip
      exact absurd (Int.le_refl _) c_7
  · intro a ha iha o1 o2 h1
    refine x_il_n (q := 3) dX0_isDoubtful_2 rfl rfl ?_
    refine x_al_n (q := 4) dX0_isDoubtful_3 rfl rfl ?_
    refine x_getIe (q := 7) (z := (n : Int)) dX0_isDoubtful_4 rfl fX0_36 (hs _ _ rfl) rfl (hst) ?_
    refine x_ic_ge (t := 70) (q := 10) dX0_isDoubtful_7 rfl rfl (fun c_7 => ?_) (fun c_7 => ?_)
    · skip
      exact absurd c_7 (by omega)
    · skip
      refine x_ic (q := 11) dX0_isDoubtful_10 rfl rfl ?_
      refine x_is2 (q := 12) dX0_isDoubtful_11 rfl rfl ?_
      refine x_up (S := fun b => ∀ o2 : Option AV, anyN (fun b => anyN (dB T E mu a b) 16) b = false → Wv g mX0_isDoubtful 0 0 12 [some (aR 10), some (aI (a : Int)), some (aI (b : Int)), o2] [] (sh, rf, v) (retI (b2i (dbt T E mu n)) (sh, rf, v))) a ?_ ?_ 0 (Nat.zero_le _) o2 rfl
      · intro o2 h2
        refine x_il_n (q := 13) dX0_isDoubtful_12 rfl rfl ?_
        refine x_il_n (q := 14) dX0_isDoubtful_13 rfl rfl ?_
        refine x_ic_ge (t := 64) (q := 17) dX0_isDoubtful_14 rfl rfl (fun c_14 => ?_) (fun c_14 => ?_)
        · skip
          refine x_ii1 (q := 67) dX0_isDoubtful_64 rfl rfl ⟨by omega, by omega⟩ ?_
          refine x_goto (t := 2) dX0_isDoubtful_67 rfl ?_
          exact iha _ _ (anyN_f h2 h1)
        · skip
          exact absurd (Int.le_refl _) c_14
      · intro b hb ihb o2 h2
        refine x_il_n (q := 13) dX0_isDoubtful_12 rfl rfl ?_
        refine x_il_n (q := 14) dX0_isDoubtful_13 rfl rfl ?_
        refine x_ic_ge (t := 64) (q := 17) dX0_isDoubtful_14 rfl rfl (fun c_14 => ?_) (fun c_14 => ?_)
        · skip
          exact absurd c_14 (by omega)
        · skip
          refine x_ic (q := 18) dX0_isDoubtful_17 rfl rfl ?_
          refine x_is3 (q := 19) dX0_isDoubtful_18 rfl rfl ?_
          refine x_up (S := fun w => anyN (dB T E mu a b) w = false → Wv g mX0_isDoubtful 0 0 19 [some (aR 10), some (aI (a : Int)), some (aI (b : Int)), some (aI (w : Int))] [] (sh, rf, v) (retI (b2i (dbt T E mu n)) (sh, rf, v))) 16 ?_ ?_ 0 (Nat.zero_le _) rfl
          · intro h3
            refine x_il_n (q := 20) dX0_isDoubtful_19 rfl rfl ?_
            refine x_bi (q := 22) dX0_isDoubtful_20 rfl rfl ?_
            refine x_ic_ge (t := 58) (q := 25) dX0_isDoubtful_22 rfl rfl (fun c_22 => ?_) (fun c_22 => ?_)
            · skip
              refine x_ii2 (q := 61) dX0_isDoubtful_58 rfl rfl ⟨by omega, by omega⟩ ?_
              refine x_goto (t := 12) dX0_isDoubtful_61 rfl ?_
              exact ihb _ (anyN_f h3 h2)
            · skip
              exact absurd (by decide) c_22
          · intro w hw ih h3
            refine x_il_n (q := 20) dX0_isDoubtful_19 rfl rfl ?_
            refine x_bi (q := 22) dX0_isDoubtful_20 rfl rfl ?_
            refine x_ic_ge (t := 58) (q := 25) dX0_isDoubtful_22 rfl rfl (fun c_22 => ?_) (fun c_22 => ?_)
            · skip
              exact absurd c_22 (by omega)
            · skip
              refine x_al_n (q := 26) dX0_isDoubtful_25 rfl rfl ?_
              refine x_il_n (q := 27) dX0_isDoubtful_26 rfl rfl ?_
              refine x_il_n (q := 28) dX0_isDoubtful_27 rfl rfl ?_
              refine x_il_n (q := 29) dX0_isDoubtful_28 rfl rfl ?_
              refine x_VI (q := 32) (ci := 0) dX0_isDoubtful_29 rfl kX0_isDoubtful_113 (c_goOnAlike hs hr (by omega) (by omega) hw hE hT hM) rfl rfl (hs _ _ rfl) (by decide) rfl (Nat.le_of_ble_eq_true rfl) ⟨rfl, rfl⟩ ⟨Nat.zero_le _, Nat.zero_le _⟩ ?_
              refine x_if_eq (t := 52) (q := 35) dX0_isDoubtful_32 rfl rfl (fun c_32 => ?_) (fun c_32 => ?_)
              · skip
                have hF : dB T E mu a b w = false := by unfold dB; rw [b2i_0.mp c_32]; rfl
                refine x_ii3 (q := 55) dX0_isDoubtful_52 rfl rfl ⟨by omega, by omega⟩ ?_
                refine x_goto (t := 19) dX0_isDoubtful_55 rfl ?_
                exact ih (anyN_f hF h3)
              · skip
                refine x_al_n (q := 36) dX0_isDoubtful_35 rfl rfl ?_
                refine x_il_n (q := 37) dX0_isDoubtful_36 rfl rfl ?_
                refine x_il_n (q := 38) dX0_isDoubtful_37 rfl rfl ?_
                refine x_VI (q := 41) (ci := 0) dX0_isDoubtful_38 rfl kX0_isDoubtful_76 (c_tagOf hs hr) rfl rfl (hs _ _ rfl) (by decide) rfl (Nat.le_of_ble_eq_true rfl) ⟨rfl, rfl⟩ ⟨Nat.zero_le _, Nat.zero_le _⟩ ?_
                rw [tagF_e hT (by omega) hw]
                refine x_al_n (q := 42) dX0_isDoubtful_41 rfl rfl ?_
                refine x_il_n (q := 43) dX0_isDoubtful_42 rfl rfl ?_
                refine x_il_n (q := 44) dX0_isDoubtful_43 rfl rfl ?_
                refine x_VI (q := 47) (ci := 0) dX0_isDoubtful_44 rfl kX0_isDoubtful_76 (c_tagOf hs hr) rfl rfl (hs _ _ rfl) (by decide) rfl (Nat.le_of_ble_eq_true rfl) ⟨rfl, rfl⟩ ⟨Nat.zero_le _, Nat.zero_le _⟩ ?_
                rw [tagF_e hT (by omega) hw]
                refine x_ic_eq (t := 52) (q := 50) dX0_isDoubtful_47 rfl rfl (fun c_47 => ?_) (fun c_47 => ?_)
                · skip
                  have hF : dB T E mu a b w = false := by unfold dB; simp [c_47]
                  refine x_ii3 (q := 55) dX0_isDoubtful_52 rfl rfl ⟨by omega, by omega⟩ ?_
                  refine x_goto (t := 19) dX0_isDoubtful_55 rfl ?_
                  exact ih (anyN_f hF h3)
                · skip
                  have hF : dB T E mu a b w = true := by unfold dB; rw [b2i_n0.mp c_32]; simp [c_47]
                  have hR : dbt T E mu n = true := anyN_t (f := fun a => anyN (fun b => anyN (dB T E mu a b) 16) a) (anyN_t (f := fun b => anyN (dB T E mu a b) 16) (anyN_t hF hw) hb) ha
                  refine x_ic (q := 51) dX0_isDoubtful_50 rfl rfl ?_
                  exact x_zret dX0_isDoubtful_51 rfl (by first | exact .inl rfl | exact .inr rfl | exact b2i_01 _) rfl (Nat.zero_le _) (retI_mk (by rw [hR]; rfl))
theorem orP2 {a : Int} {k : Nat} (h : 0 ≤ a) (h2 : a < 2 ^ k) : (((a + 2 ^ k).toNat ||| ((2 : Int) ^ k).toNat : Nat) : Int) = a + 2 ^ k := by
  have e := orP h h2
  have hp := pw_pos k
  have e2 : (a + 2 ^ k).toNat = a.toNat ||| ((2 : Int) ^ k).toNat := by omega
  rw [e2, Nat.or_assoc, Nat.or_self]
  exact e
set_option maxHeartbeats 4000000 in
set_option maxRecDepth 100000 in
theorem c_lengthenMates (hs : Ext sh) (hr : Rok rf) (hE : RowE v E) (hT : RowTT v T) (hM : RowM v mu) : Cv g mX0_lengthenMates [aR 10] (sh, rf, v) (putL (fun u => RowM u (muN T E mu) ∧ ∀ c, c ≠ 13 → c ≠ 14 → u c = v c) sh rf) := by
  refine x_entry (ls := [some (aR 10), none, none, none, none]) rfl rfl (Nat.le_of_ble_eq_true rfl) ?_
  refine x_ic (q := 1) dX0_lengthenMates_0 rfl rfl ?_
  refine x_is1 (q := 2) dX0_lengthenMates_1 rfl rfl ?_
  refine x_up (S := fun a => ∀ (u : Nat → Nat → Int) (o1 o2 o3 : Option AV), ((∀ x, x < a → u 14 x = mk (muN T E mu x) 7) ∧ ∀ c, c ≠ 14 → u c = v c) → Wv g mX0_lengthenMates 0 0 2 [some (aR 10), some (aI (a : Int)), o1, o2, o3] [] (sh, rf, u) (putL (fun u => RowM u (muN T E mu) ∧ ∀ c, c ≠ 13 → c ≠ 14 → u c = v c) sh rf)) 7 ?_ ?_ 0 (Nat.zero_le _) v none none none ⟨fun x hx => by omega, fun _ _ => rfl⟩
  · intro u o1 o2 o3 ⟨hu1, hu2⟩
    refine x_il_n (q := 3) dX0_lengthenMates_2 rfl rfl ?_
    refine x_bi (q := 5) dX0_lengthenMates_3 rfl rfl ?_
    refine x_ic_ge (t := 70) (q := 8) dX0_lengthenMates_5 rfl rfl (fun c_5 => ?_) (fun c_5 => ?_)
    · skip
      refine x_al_n (q := 71) dX0_lengthenMates_70 rfl rfl ?_
      refine x_getR (q := 74) (o := some (14)) dX0_lengthenMates_71 rfl fX0_21 (hs _ _ rfl) rfl (hr _ _ _ rfl) ?_
      refine x_ic (q := 75) dX0_lengthenMates_74 rfl rfl ?_
      refine x_al_n (q := 76) dX0_lengthenMates_75 rfl rfl ?_
      refine x_getR (q := 79) (o := some (13)) dX0_lengthenMates_76 rfl fX0_18 (hs _ _ rfl) rfl (hr _ _ _ rfl) ?_
      refine x_ic (q := 80) dX0_lengthenMates_79 rfl rfl ?_
      refine x_bi (q := 82) dX0_lengthenMates_80 rfl rfl ?_
      refine x_copy (q := 85) dX0_lengthenMates_82 rfl q327 q329 q328 q77 (hs _ _ rfl) (hs _ _ rfl) (by decide) (by decide) (by decide) (Nat.le_of_ble_eq_true rfl) (Nat.le_of_ble_eq_true rfl) (Nat.le_of_ble_eq_true rfl) ?_
      refine x_vret dX0_lengthenMates_85 rfl rfl (Nat.zero_le _) ⟨rfl, _, rfl, fun x hx => ?_, fun c h13 h14 => ?_⟩
      · rw [upR_c, if_pos (show x < Int.toNat 7 from hx)]
        exact hu1 x hx
      · rw [upR_n _ _ h13]; exact hu2 c h14
    · skip
      exact absurd (by decide) c_5
  · intro a ha iha u o1 o2 o3 ⟨hu1, hu2⟩
    refine x_il_n (q := 3) dX0_lengthenMates_2 rfl rfl ?_
    refine x_bi (q := 5) dX0_lengthenMates_3 rfl rfl ?_
    refine x_ic_ge (t := 70) (q := 8) dX0_lengthenMates_5 rfl rfl (fun c_5 => ?_) (fun c_5 => ?_)
    · skip
      exact absurd c_5 (by omega)
    · skip
      refine x_ic (q := 9) dX0_lengthenMates_8 rfl rfl ?_
      refine x_is2 (q := 10) dX0_lengthenMates_9 rfl rfl ?_
      refine x_ic (q := 11) dX0_lengthenMates_10 rfl rfl ?_
      refine x_is3 (q := 12) dX0_lengthenMates_11 rfl rfl ?_
      refine x_up (S := fun b => ∀ o3 : Option AV, Wv g mX0_lengthenMates 0 0 12 [some (aR 10), some (aI (a : Int)), some (aI (mk (muN T E mu a) b)), some (aI (b : Int)), o3] [] (sh, rf, u) (putL (fun u => RowM u (muN T E mu) ∧ ∀ c, c ≠ 13 → c ≠ 14 → u c = v c) sh rf)) 7 ?_ ?_ 0 (Nat.zero_le _) o3
      · intro o3
        refine x_il_n (q := 13) dX0_lengthenMates_12 rfl rfl ?_
        refine x_bi (q := 15) dX0_lengthenMates_13 rfl rfl ?_
        refine x_ic_ge (t := 57) (q := 18) dX0_lengthenMates_15 rfl rfl (fun c_15 => ?_) (fun c_15 => ?_)
        · skip
          refine x_al_n (q := 58) dX0_lengthenMates_57 rfl rfl ?_
          refine x_getR (q := 61) (o := some (14)) dX0_lengthenMates_58 rfl fX0_21 (hs _ _ rfl) rfl (hr _ _ _ rfl) ?_
          refine x_il_n (q := 62) dX0_lengthenMates_61 rfl rfl ?_
          refine x_il_n (q := 63) dX0_lengthenMates_62 rfl rfl ?_
          refine x_iast (q := 64) dX0_lengthenMates_63 rfl (hs _ _ rfl) (by omega) (by omega) ?_
          refine x_ii1 (q := 67) dX0_lengthenMates_64 rfl rfl ⟨by omega, by omega⟩ ?_
          refine x_goto (t := 2) dX0_lengthenMates_67 rfl ?_
          refine iha _ _ _ _ ⟨fun x hx => ?_, fun c hc => ?_⟩
          · rw [up_at]
            by_cases hx2 : x = a
            · rw [if_pos (by omega), hx2]
            · rw [if_neg (by omega)]; exact hu1 x (by omega)
          · rw [up_n _ _ _ hc]; exact hu2 c hc
        · skip
          exact absurd (by decide) c_15
      · intro b hb ihb o3
        have hml := mk_rng (muN T E mu a) b
        refine x_il_n (q := 13) dX0_lengthenMates_12 rfl rfl ?_
        refine x_bi (q := 15) dX0_lengthenMates_13 rfl rfl ?_
        refine x_ic_ge (t := 57) (q := 18) dX0_lengthenMates_15 rfl rfl (fun c_15 => ?_) (fun c_15 => ?_)
        · skip
          exact absurd c_15 (by omega)
        · skip
          refine x_ic (q := 19) dX0_lengthenMates_18 rfl rfl ?_
          refine x_is4 (q := 21) dX0_lengthenMates_19 rfl rfl ?_
          have key : ∀ w, w ≤ 16 → Wv g mX0_lengthenMates 0 0 21 [some (aR 10), some (aI (a : Int)), some (aI (mk (muN T E mu a) b + (if anyN (GOc T E mu a b) w = true then 2 ^ b else 0))), some (aI (b : Int)), some (aI (w : Int))] [] (sh, rf, u) (putL (fun u => RowM u (muN T E mu) ∧ ∀ c, c ≠ 13 → c ≠ 14 → u c = v c) sh rf) := by
            refine x_up 16 ?_ ?_
            · skip
              refine x_il (q := 23) dX0_lengthenMates_21 rfl rfl ?_
              refine x_bi (q := 25) dX0_lengthenMates_23 rfl rfl ?_
              refine x_ic_ge (t := 51) (q := 28) dX0_lengthenMates_25 rfl rfl (fun c_25 => ?_) (fun c_25 => ?_)
              · skip
                refine x_ii3 (q := 54) dX0_lengthenMates_51 rfl rfl ⟨by omega, by omega⟩ ?_
                refine x_goto (t := 12) dX0_lengthenMates_54 rfl ?_
                exact ihb _
              · skip
                exact absurd (by decide) c_25
            · intro w hw ih
              refine x_il (q := 23) dX0_lengthenMates_21 rfl rfl ?_
              refine x_bi (q := 25) dX0_lengthenMates_23 rfl rfl ?_
              refine x_ic_ge (t := 51) (q := 28) dX0_lengthenMates_25 rfl rfl (fun c_25 => ?_) (fun c_25 => ?_)
              · skip
                exact absurd c_25 (by omega)
              · skip
                refine x_al_n (q := 29) dX0_lengthenMates_28 rfl rfl ?_
                refine x_il_n (q := 30) dX0_lengthenMates_29 rfl rfl ?_
                refine x_il_n (q := 31) dX0_lengthenMates_30 rfl rfl ?_
                refine x_il (q := 33) dX0_lengthenMates_31 rfl rfl ?_
                refine x_VI (q := 36) (ci := 0) dX0_lengthenMates_33 rfl kX0_lengthenMates_113 (c_goOnAlike hs hr (v := u) ha hb hw (by intro j hj; rw [hu2 11 (by decide)]; exact hE j hj) (by intro j hj; rw [hu2 12 (by decide)]; exact hT j hj) (by intro j hj; rw [hu2 13 (by decide)]; exact hM j hj)) rfl rfl (hs _ _ rfl) (by decide) rfl (Nat.le_of_ble_eq_true rfl) ⟨rfl, rfl⟩ ⟨Nat.zero_le _, Nat.zero_le _⟩ ?_
                refine x_if_eq (t := 45) (q := 39) dX0_lengthenMates_36 rfl rfl (fun c_36 => ?_) (fun c_36 => ?_)
                · skip
                  have hF : anyN (GOc T E mu a b) (w + 1) = anyN (GOc T E mu a b) w := by show (_ || _) = _; rw [b2i_0.mp c_36]; simp
                  rw [hF] at ih
                  refine x_ii4 (q := 48) dX0_lengthenMates_45 rfl rfl ⟨by omega, by omega⟩ ?_
                  refine x_goto (t := 21) dX0_lengthenMates_48 rfl ?_
                  exact ih
                · skip
                  have hF : anyN (GOc T E mu a b) (w + 1) = true := by show (_ || _) = true; rw [b2i_n0.mp c_36]; simp
                  rw [hF, if_pos rfl] at ih
                  refine x_il_n (q := 40) dX0_lengthenMates_39 rfl rfl ?_
                  refine x_ic (q := 41) dX0_lengthenMates_40 rfl rfl ?_
                  refine x_il_n (q := 42) dX0_lengthenMates_41 rfl rfl ?_
                  refine x_pow (q := 43) dX0_lengthenMates_42 rfl (by omega) (by omega) ?_
                  rw [Int.toNat_natCast]
                  refine x_or (q := 44) dX0_lengthenMates_43 rfl (by have := pw_pos b; split <;> omega) (Int.le_of_lt (pw_pos b)) ?_
                  refine x_top (b := mk (muN T E mu a) b + 2 ^ b) ?_ ?_
                  · split
                    · exact orP2 hml.1 hml.2
                    · rw [Int.add_zero]; exact orP hml.1 hml.2
                  refine x_is2 (q := 45) dX0_lengthenMates_44 rfl rfl ?_
                  refine x_ii4 (q := 48) dX0_lengthenMates_45 rfl rfl ⟨by omega, by omega⟩ ?_
                  refine x_goto (t := 21) dX0_lengthenMates_48 rfl ?_
                  exact ih
          have h0 := key 0 (Nat.zero_le _)
          rw [show (if anyN (GOc T E mu a b) 0 = true then (2 : Int) ^ b else 0) = 0 from rfl, Int.add_zero] at h0
          exact h0
set_option maxHeartbeats 4000000 in
set_option maxRecDepth 100000 in
theorem c_narrowestWindow (hs : Ext sh) (hr : Rok rf) (hE : RowE v E) (hT : RowTT v T) (hst : v 10 0 = (n : Int)) (hg : v 10 1 = mk f n) (hn : n ≤ 7) : Cv g mX0_narrowestWindow [aR 10] (sh, rf, v) (fun r h1 => r = some (aI (wnC T E f n)) ∧ ∃ u, h1 = (sh, rf, u) ∧ ∀ c, c ≠ 13 → c ≠ 14 → u c = v c) := by
  refine x_entry (ls := [some (aR 10), none]) rfl rfl (Nat.le_of_ble_eq_true rfl) ?_
  refine x_al_n (q := 1) dX0_narrowestWindow_0 rfl rfl ?_
  refine x_getIe (q := 4) (z := mk f n) dX0_narrowestWindow_1 rfl fX0_66 (hs _ _ rfl) rfl (hg) ?_
  refine x_if_ne (t := 10) (q := 7) dX0_narrowestWindow_4 rfl rfl (fun c_4 => ?_) (fun c_4 => ?_)
  · skip
    have hw : wnC T E f n = fi (fun m => !dbt T E (muK T E f n m) n) 0 4 := by unfold wnC; rw [if_neg c_4]
    rw [hw]
    refine x_ic (q := 11) dX0_narrowestWindow_10 rfl rfl ?_
    refine x_is1 (q := 12) dX0_narrowestWindow_11 rfl rfl ?_
    have key : ∀ (m : Nat), m ≤ 4 → ∀ (k : Nat) (u : Nat → Nat → Int), m + k = 4 → (RowM u (muK T E f n m) ∧ ∀ c, c ≠ 13 → c ≠ 14 → u c = v c) → Wv g mX0_narrowestWindow 0 0 36 [some (aR 10), some (aI (m : Int))] [] (sh, rf, u) (fun r h1 => r = some (aI (fi (fun m => !dbt T E (muK T E f n m) n) m k)) ∧ ∃ u, h1 = (sh, rf, u) ∧ ∀ c, c ≠ 13 → c ≠ 14 → u c = v c) := by
      refine x_up 4 ?_ ?_
      · intro k u hk ⟨hu1, hu2⟩
        obtain rfl : k = 0 := by omega
        refine x_il_n (q := 37) dX0_narrowestWindow_36 rfl rfl ?_
        refine x_ic (q := 38) dX0_narrowestWindow_37 rfl rfl ?_
        refine x_ic_gt (t := 60) (q := 41) dX0_narrowestWindow_38 rfl rfl (fun c_38 => ?_) (fun c_38 => ?_)
        · skip
          refine x_bi (q := 62) dX0_narrowestWindow_60 rfl rfl ?_
          exact x_iret dX0_narrowestWindow_62 rfl rfl (Nat.zero_le _) ⟨rfl, u, rfl, hu2⟩
        · skip
          exact absurd (by decide) c_38
      · intro m hm ih k u hk ⟨hu1, hu2⟩
        obtain ⟨k, rfl⟩ : ∃ j, k = j + 1 := ⟨3 - m, by omega⟩
        refine x_il_n (q := 37) dX0_narrowestWindow_36 rfl rfl ?_
        refine x_ic (q := 38) dX0_narrowestWindow_37 rfl rfl ?_
        refine x_ic_gt (t := 60) (q := 41) dX0_narrowestWindow_38 rfl rfl (fun c_38 => ?_) (fun c_38 => ?_)
        · skip
          exact absurd c_38 (by omega)
        · skip
          refine x_al_n (q := 42) dX0_narrowestWindow_41 rfl rfl ?_
          refine x_VI (q := 45) (ci := 0) dX0_narrowestWindow_42 rfl kX0_narrowestWindow_106 (c_isDoubtful hs hr (v := u) (T := T) (E := E) (mu := muK T E f n m) (n := n) (by intro j hj; rw [hu2 11 (by decide) (by decide)]; exact hE j hj) (by intro j hj; rw [hu2 12 (by decide) (by decide)]; exact hT j hj) hu1 (by rw [hu2 10 (by decide) (by decide)]; exact hst) hn) rfl rfl (hs _ _ rfl) (by decide) rfl (Nat.le_of_ble_eq_true rfl) ⟨rfl, rfl⟩ ⟨Nat.zero_le _, Nat.zero_le _⟩ ?_
          refine x_if_ne (t := 50) (q := 48) dX0_narrowestWindow_45 rfl rfl (fun c_45 => ?_) (fun c_45 => ?_)
          · skip
            rw [fi_f (show (!dbt T E (muK T E f n m) n) = false by rw [b2i_n0.mp c_45]; rfl)]
            refine x_al_n (q := 51) dX0_narrowestWindow_50 rfl rfl ?_
            refine x_V (q := 54) (ci := 0) dX0_narrowestWindow_51 rfl kX0_narrowestWindow_110 (c_lengthenMates hs hr (v := u) (T := T) (E := E) (mu := muK T E f n m) (by intro j hj; rw [hu2 11 (by decide) (by decide)]; exact hE j hj) (by intro j hj; rw [hu2 12 (by decide) (by decide)]; exact hT j hj) hu1) rfl rfl (hs _ _ rfl) (by decide) rfl (Nat.le_of_ble_eq_true rfl) ⟨rfl, rfl⟩ ⟨Nat.zero_le _, Nat.zero_le _⟩ (fun r1 h1 hp => ?_)
            obtain ⟨rfl, u2, rfl, h5, h6⟩ := hp
            refine x_ii1 (q := 57) dX0_narrowestWindow_54 rfl rfl ⟨by omega, by omega⟩ ?_
            refine x_goto (t := 36) dX0_narrowestWindow_57 rfl ?_
            exact ih k u2 (by omega) ⟨h5, fun c h13 h14 => by rw [h6 c h13 h14]; exact hu2 c h13 h14⟩
          · skip
            rw [fi_t (show (!dbt T E (muK T E f n m) n) = true by rw [b2i_0.mp c_45]; rfl)]
            refine x_il_n (q := 49) dX0_narrowestWindow_48 rfl rfl ?_
            exact x_iret dX0_narrowestWindow_49 rfl rfl (Nat.zero_le _) ⟨rfl, u, rfl, hu2⟩
    refine x_up (S := fun x => ∀ u : Nat → Nat → Int, ((∀ y, y < x → u 13 y = mk f n) ∧ ∀ c, c ≠ 13 → u c = v c) → Wv g mX0_narrowestWindow 0 0 12 [some (aR 10), some (aI (x : Int))] [] (sh, rf, u) (fun r h1 => r = some (aI (fi (fun m => !dbt T E (muK T E f n m) n) 0 4)) ∧ ∃ u, h1 = (sh, rf, u) ∧ ∀ c, c ≠ 13 → c ≠ 14 → u c = v c)) 7 ?_ ?_ 0 (Nat.zero_le _) v ⟨fun y hy => by omega, fun _ _ => rfl⟩
    · intro u ⟨hu1, hu2⟩
      refine x_il_n (q := 13) dX0_narrowestWindow_12 rfl rfl ?_
      refine x_bi (q := 15) dX0_narrowestWindow_13 rfl rfl ?_
      refine x_ic_ge (t := 34) (q := 18) dX0_narrowestWindow_15 rfl rfl (fun c_15 => ?_) (fun c_15 => ?_)
      · skip
        refine x_ic (q := 35) dX0_narrowestWindow_34 rfl rfl ?_
        refine x_is1 (q := 36) dX0_narrowestWindow_35 rfl rfl ?_
        exact key 0 (Nat.zero_le _) 4 u rfl ⟨fun x hx => by rw [hu1 x hx]; exact (mk_7 hn).symm, fun c h13 _ => hu2 c h13⟩
      · skip
        exact absurd (by decide) c_15
    · intro x hx ih u ⟨hu1, hu2⟩
      refine x_il_n (q := 13) dX0_narrowestWindow_12 rfl rfl ?_
      refine x_bi (q := 15) dX0_narrowestWindow_13 rfl rfl ?_
      refine x_ic_ge (t := 34) (q := 18) dX0_narrowestWindow_15 rfl rfl (fun c_15 => ?_) (fun c_15 => ?_)
      · skip
        exact absurd c_15 (by omega)
      · skip
        refine x_al_n (q := 19) dX0_narrowestWindow_18 rfl rfl ?_
        refine x_getR (q := 22) (o := some (13)) dX0_narrowestWindow_19 rfl fX0_18 (hs _ _ rfl) rfl (hr _ _ _ rfl) ?_
        refine x_il_n (q := 23) dX0_narrowestWindow_22 rfl rfl ?_
        refine x_al_n (q := 24) dX0_narrowestWindow_23 rfl rfl ?_
        refine x_getIe (q := 27) (z := mk f n) dX0_narrowestWindow_24 rfl fX0_66 (hs _ _ rfl) rfl (by rw [hu2 10 (by decide)]; exact hg) ?_
        refine x_iast (q := 28) dX0_narrowestWindow_27 rfl (hs _ _ rfl) (by omega) (by omega) ?_
        refine x_ii1 (q := 31) dX0_narrowestWindow_28 rfl rfl ⟨by omega, by omega⟩ ?_
        refine x_goto (t := 12) dX0_narrowestWindow_31 rfl ?_
        refine ih _ ⟨fun y hy => ?_, fun c hc => ?_⟩
        · rw [up_at]
          by_cases hy2 : y = x
          · rw [if_pos (by omega)]
          · rw [if_neg (by omega)]; exact hu1 y (by omega)
        · rw [up_n _ _ _ hc]; exact hu2 c hc
  · skip
    have hw : wnC T E f n = -9 := by unfold wnC; rw [if_pos c_4]
    rw [hw]
    refine x_bi (q := 9) dX0_narrowestWindow_7 rfl rfl ?_
    exact x_iret dX0_narrowestWindow_9 rfl rfl (Nat.zero_le _) ⟨rfl, v, rfl, fun _ _ _ => rfl⟩
end WIN

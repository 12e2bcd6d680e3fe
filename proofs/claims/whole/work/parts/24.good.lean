/-! ===== Arcs: good states, tags ===== -/
theorem up_up (v : Nat → Nat → Int) (c k : Nat) (a b : Int) : up (up v c k a) c k b = up v c k b := by
  funext d j
  unfold up
  by_cases hd : d = c
  · subst hd
    simp only [if_true]
    by_cases hj : j = k <;> simp [hj]
  · simp [hd]
theorem up_same (v : Nat → Nat → Int) (c k : Nat) : up v c k (v c k) = v := by
  funext d j
  unfold up
  by_cases hd : d = c
  · subst hd
    simp only [if_true]
    by_cases hj : j = k <;> simp [hj]
  · simp [hd]
theorem mk_all : ∀ n, mk (fun _ => true) n = 2 ^ n - 1
  | 0 => rfl
  | n + 1 => by
    unfold mk
    rw [mk_all n, if_pos rfl, Int.pow_succ]
    omega
def RowE (v : Nat → Nat → Int) (e : Nat → Nat → Int) : Prop := ∀ j, j < 112 → v 11 j = e (j / 16) (j % 16)
theorem endF_e {v : Nat → Nat → Int} {e : Nat → Nat → Int} (h : RowE v e) {s w : Nat} (hs : s < 7) (hw : w < 16) : endF v s w = e s w := by
  unfold endF
  rw [if_pos (by omega), show ((s : Int) * 16 + w).toNat = 16 * s + w by omega, h _ (by omega), show (16 * s + w) / 16 = s by omega, show (16 * s + w) % 16 = w by omega]
theorem RowE.up10 {v : Nat → Nat → Int} {e : Nat → Nat → Int} (h : RowE v e) (k : Nat) (z : Int) : RowE (up v 10 k z) e := by
  intro j hj
  rw [up_n _ _ _ (by decide)]
  exact h j hj
theorem mk_s (f : Nat → Bool) (n : Nat) : mk f (n + 1) = mk f n + (if f n then 2 ^ n else 0) := rfl
section GOOD
variable {g : GL} {sh : List (Nat × Nat)} {rf : Nat → Nat → Option Nat} {v : Nat → Nat → Int} {e : Nat → Nat → Int} {f : Nat → Bool} {n : Nat}

set_option maxHeartbeats 4000000 in
set_option maxRecDepth 100000 in
theorem c_arcsToGood (hs : Ext sh) (hr : Rok rf) {s : Nat} (hs7 : s < 7) (hE : RowE v e) (hg : v 10 1 = mk f n) (hn : n ≤ 7) : Cv g mX0_arcsToGood [aR 10, aI (s : Int)] (sh, rf, v) (retI (cnt (fun w => inS f n (e s w)) 16) (sh, rf, v)) := by
  have hm := mk_rng f n
  refine x_entry (ls := [some (aR 10), some (aI (s : Int)), none, none]) rfl rfl (Nat.le_of_ble_eq_true rfl) ?_
  refine x_ic (q := 1) dX0_arcsToGood_0 rfl rfl ?_
  refine x_is2 (q := 2) dX0_arcsToGood_1 rfl rfl ?_
  refine x_ic (q := 3) dX0_arcsToGood_2 rfl rfl ?_
  refine x_is3 (q := 4) dX0_arcsToGood_3 rfl rfl ?_
  refine x_up (S := fun i => Wv g mX0_arcsToGood 0 0 4 [some (aR 10), some (aI (s : Int)), some (aI (cnt (fun w => inS f n (e s w)) i)), some (aI (i : Int))] [] (sh, rf, v) (retI (cnt (fun w => inS f n (e s w)) 16) (sh, rf, v))) 16 ?_ ?_ 0 (by decide)
  · skip
    refine x_il_n (q := 5) dX0_arcsToGood_4 rfl rfl ?_
    refine x_bi (q := 7) dX0_arcsToGood_5 rfl rfl ?_
    refine x_ic_ge (t := 35) (q := 10) dX0_arcsToGood_7 rfl rfl (fun c_7 => ?_) (fun c_7 => ?_)
    · skip
      refine x_il_n (q := 36) dX0_arcsToGood_35 rfl rfl ?_
      exact x_iret dX0_arcsToGood_36 rfl rfl (Nat.zero_le _) (retI_mk (by rfl))
    · skip
      exact absurd (by decide) c_7
  · intro i hi ih
    have hb := cnt_rng (fun w => inS f n (e s w)) i
    refine x_il_n (q := 5) dX0_arcsToGood_4 rfl rfl ?_
    refine x_bi (q := 7) dX0_arcsToGood_5 rfl rfl ?_
    refine x_ic_ge (t := 35) (q := 10) dX0_arcsToGood_7 rfl rfl (fun c_7 => ?_) (fun c_7 => ?_)
    · skip
      exact absurd c_7 (by omega)
    · skip
      refine x_al_n (q := 11) dX0_arcsToGood_10 rfl rfl ?_
      refine x_getIe (q := 14) (z := mk f n) dX0_arcsToGood_11 rfl fX0_66 (hs _ _ rfl) rfl (hg) ?_
      refine x_al_n (q := 15) dX0_arcsToGood_14 rfl rfl ?_
      refine x_il_n (q := 16) dX0_arcsToGood_15 rfl rfl ?_
      refine x_il_n (q := 17) dX0_arcsToGood_16 rfl rfl ?_
      refine x_VI (q := 20) (ci := 0) dX0_arcsToGood_17 rfl kX0_arcsToGood_73 (c_endOf hs hr) rfl rfl (hs _ _ rfl) (by decide) rfl (Nat.le_of_ble_eq_true rfl) ⟨rfl, rfl⟩ ⟨Nat.zero_le _, Nat.zero_le _⟩ ?_
      rw [endF_e hE hs7 hi]
      refine x_SI (q := 23) dX0_arcsToGood_20 rfl kX0_arcsToGood_69 (c_has hm.1) rfl rfl (Nat.le_of_ble_eq_true rfl) ⟨rfl, rfl⟩ ⟨Nat.zero_le _, Nat.zero_le _⟩ ?_
      rw [has_mk hn]
      refine x_if_eq (t := 29) (q := 26) dX0_arcsToGood_23 rfl rfl (fun c_23 => ?_) (fun c_23 => ?_)
      · skip
        rw [cnt_f (b2i_0.mp c_23)] at ih
        refine x_ii3 (q := 32) dX0_arcsToGood_29 rfl rfl ⟨by omega, by omega⟩ ?_
        refine x_goto (t := 4) dX0_arcsToGood_32 rfl ?_
        exact ih
      · skip
        rw [cnt_t (b2i_n0.mp c_23)] at ih
        refine x_ii2 (q := 29) dX0_arcsToGood_26 rfl rfl ⟨by omega, by omega⟩ ?_
        refine x_ii3 (q := 32) dX0_arcsToGood_29 rfl rfl ⟨by omega, by omega⟩ ?_
        refine x_goto (t := 4) dX0_arcsToGood_32 rfl ?_
        exact ih
set_option maxHeartbeats 4000000 in
set_option maxRecDepth 100000 in
theorem c_setGood (hs : Ext sh) (hr : Rok rf) {d : Int} (hE : RowE v e) (hst : v 10 0 = (n : Int)) (hn : n ≤ 7) : Cv g mX0_setGood [aR 10, aI d] (sh, rf, v) (retV (sh, rf, up v 10 1 (mk (gd e n d) n))) := by
  refine x_entry (ls := [some (aR 10), some (aI d), none, none, none]) rfl rfl (Nat.le_of_ble_eq_true rfl) ?_
  refine x_al_n (q := 1) dX0_setGood_0 rfl rfl ?_
  refine x_ic (q := 2) dX0_setGood_1 rfl rfl ?_
  refine x_al_n (q := 3) dX0_setGood_2 rfl rfl ?_
  refine x_getIe (q := 6) (z := (n : Int)) dX0_setGood_3 rfl fX0_36 (hs _ _ rfl) rfl (hst) ?_
  refine x_pow (q := 7) dX0_setGood_6 rfl (by omega) (by omega) ?_
  rw [Int.toNat_natCast]
  refine x_ic (q := 8) dX0_setGood_7 rfl rfl ?_
  refine x_sub (q := 9) dX0_setGood_8 rfl ⟨by have := pw_pos n; omega, by have := pw_le (k := n) (n := 20) (by omega); omega⟩ ?_
  rw [← mk_all n]
  refine x_putI (q := 12) dX0_setGood_9 rfl fX0_66 (hs _ _ rfl) (.inl rfl) rfl ?_
  refine x_ic (q := 13) dX0_setGood_12 rfl rfl ?_
  refine x_is2 (q := 14) dX0_setGood_13 rfl rfl ?_
  refine x_up (S := fun k => ∀ o1 o2 : Option AV, Wv g mX0_setGood 0 0 14 [some (aR 10), some (aI d), some (aI (k : Int)), o1, o2] [] (sh, rf, (up v 10 1 (mk (gk e n d k) n))) (retV (sh, rf, up v 10 1 (mk (gd e n d) n)))) 8 ?_ ?_ 0 (by decide) none none
  · intro o1 o2
    refine x_il_n (q := 15) dX0_setGood_14 rfl rfl ?_
    refine x_bi (q := 17) dX0_setGood_15 rfl rfl ?_
    refine x_ic_gt (t := 91) (q := 20) dX0_setGood_17 rfl rfl (fun c_17 => ?_) (fun c_17 => ?_)
    · skip
      exact x_vret dX0_setGood_91 rfl rfl (Nat.zero_le _) (by exact ⟨rfl, rfl⟩)
    · skip
      exact absurd (by decide) c_17
  · intro k hk8 ihk o1 o2
    refine x_il_n (q := 15) dX0_setGood_14 rfl rfl ?_
    refine x_bi (q := 17) dX0_setGood_15 rfl rfl ?_
    refine x_ic_gt (t := 91) (q := 20) dX0_setGood_17 rfl rfl (fun c_17 => ?_) (fun c_17 => ?_)
    · skip
      exact absurd c_17 (by omega)
    · skip
      refine x_ic (q := 21) dX0_setGood_20 rfl rfl ?_
      refine x_is3 (q := 22) dX0_setGood_21 rfl rfl ?_
      refine x_ic (q := 23) dX0_setGood_22 rfl rfl ?_
      refine x_is4 (q := 25) dX0_setGood_23 rfl rfl ?_
      refine x_up (S := fun s => Wv g mX0_setGood 0 0 25 [some (aR 10), some (aI d), some (aI (k : Int)), some (aI (mk (gk e n d (k + 1)) s)), some (aI (s : Int))] [] (sh, rf, (up v 10 1 (mk (gk e n d k) n))) (retV (sh, rf, up v 10 1 (mk (gd e n d) n)))) n ?_ ?_ 0 (Nat.zero_le _)
      · skip
        refine x_il (q := 27) dX0_setGood_25 rfl rfl ?_
        refine x_al_n (q := 28) dX0_setGood_27 rfl rfl ?_
        refine x_getIe (q := 31) (z := (n : Int)) dX0_setGood_28 rfl fX0_36 (hs _ _ rfl) rfl (by rw [up_at, if_neg (by decide)]; exact hst) ?_
        refine x_ic_ge (t := 69) (q := 34) dX0_setGood_31 rfl rfl (fun c_31 => ?_) (fun c_31 => ?_)
        · skip
          refine x_il_n (q := 70) dX0_setGood_69 rfl rfl ?_
          refine x_al_n (q := 71) dX0_setGood_70 rfl rfl ?_
          refine x_getIe (q := 74) (z := mk (gk e n d k) n) dX0_setGood_71 rfl fX0_66 (hs _ _ rfl) rfl (by rw [up_at, if_pos rfl]) ?_
          refine x_ic_ne (t := 80) (q := 77) dX0_setGood_74 rfl rfl (fun c_74 => ?_) (fun c_74 => ?_)
          · skip
            refine x_al_n (q := 81) dX0_setGood_80 rfl rfl ?_
            refine x_il_n (q := 82) dX0_setGood_81 rfl rfl ?_
            refine x_putI (q := 85) dX0_setGood_82 rfl fX0_66 (hs _ _ rfl) (.inl rfl) rfl ?_
            rw [up_up]
            refine x_ii2 (q := 88) dX0_setGood_85 rfl rfl ⟨by omega, by omega⟩ ?_
            refine x_goto (t := 14) dX0_setGood_88 rfl ?_
            exact ihk _ _
          · skip
            have hfx : mk (gk e n d k) n = mk (gd e n d) n := mk_cong (gd_fix hn (mk_inj c_74))
            rw [hfx]
            refine x_goto (t := 91) dX0_setGood_77 rfl ?_
            exact x_vret dX0_setGood_91 rfl rfl (Nat.zero_le _) (by exact ⟨rfl, rfl⟩)
        · skip
          exact absurd (by omega) c_31
      · intro s hsn ih
        have hmk := mk_rng (gk e n d k) n
        have hml := mk_rng (gk e n d (k + 1)) s
        refine x_il (q := 27) dX0_setGood_25 rfl rfl ?_
        refine x_al_n (q := 28) dX0_setGood_27 rfl rfl ?_
        refine x_getIe (q := 31) (z := (n : Int)) dX0_setGood_28 rfl fX0_36 (hs _ _ rfl) rfl (by rw [up_at, if_neg (by decide)]; exact hst) ?_
        refine x_ic_ge (t := 69) (q := 34) dX0_setGood_31 rfl rfl (fun c_31 => ?_) (fun c_31 => ?_)
        · skip
          exact absurd c_31 (by omega)
        · skip
          refine x_al_n (q := 35) dX0_setGood_34 rfl rfl ?_
          refine x_getIe (q := 38) (z := mk (gk e n d k) n) dX0_setGood_35 rfl fX0_66 (hs _ _ rfl) rfl (by rw [up_at, if_pos rfl]) ?_
          refine x_il (q := 40) dX0_setGood_38 rfl rfl ?_
          refine x_SI (q := 43) dX0_setGood_40 rfl kX0_setGood_69 (c_has hmk.1) rfl rfl (Nat.le_of_ble_eq_true rfl) ⟨rfl, rfl⟩ ⟨Nat.zero_le _, Nat.zero_le _⟩ ?_
          rw [has_mk hn]
          refine x_if_eq (t := 63) (q := 46) dX0_setGood_43 rfl rfl (fun c_43 => ?_) (fun c_43 => ?_)
          · skip
            rw [mk_s, if_neg (show ¬ gk e n d (k + 1) s = true by show ¬ (inS _ n s && _) = true; rw [b2i_0.mp c_43]; simp), Int.add_zero] at ih
            refine x_ii4 (q := 66) dX0_setGood_63 rfl rfl ⟨by omega, by omega⟩ ?_
            refine x_goto (t := 25) dX0_setGood_66 rfl ?_
            exact ih
          · skip
            refine x_al_n (q := 47) dX0_setGood_46 rfl rfl ?_
            refine x_il (q := 49) dX0_setGood_47 rfl rfl ?_
            refine x_VI (q := 52) (ci := 0) dX0_setGood_49 rfl kX0_setGood_102 (c_arcsToGood hs hr (e := e) (f := gk e n d k) (n := n) (by omega) (hE.up10 _ _) (by rw [up_at, if_pos rfl]) hn) rfl rfl (hs _ _ rfl) (by decide) rfl (Nat.le_of_ble_eq_true rfl) ⟨rfl, rfl⟩ ⟨Nat.zero_le _, Nat.zero_le _⟩ ?_
            refine x_il_n (q := 53) dX0_setGood_52 rfl rfl ?_
            refine x_ic_lt (t := 63) (q := 56) dX0_setGood_53 rfl rfl (fun c_53 => ?_) (fun c_53 => ?_)
            · skip
              rw [mk_s, if_neg (show ¬ gk e n d (k + 1) s = true by show ¬ (inS _ n s && decide _) = true; rw [decide_eq_false (by omega)]; simp), Int.add_zero] at ih
              refine x_ii4 (q := 66) dX0_setGood_63 rfl rfl ⟨by omega, by omega⟩ ?_
              refine x_goto (t := 25) dX0_setGood_66 rfl ?_
              exact ih
            · skip
              rw [mk_s, if_pos (show gk e n d (k + 1) s = true by show (inS _ n s && decide _) = true; rw [decide_eq_true (by omega), b2i_n0.mp c_43]; rfl)] at ih
              refine x_il_n (q := 57) dX0_setGood_56 rfl rfl ?_
              refine x_ic (q := 58) dX0_setGood_57 rfl rfl ?_
              refine x_il (q := 60) dX0_setGood_58 rfl rfl ?_
              refine x_pow (q := 61) dX0_setGood_60 rfl (by omega) (by omega) ?_
              rw [Int.toNat_natCast]
              refine x_orP (q := 62) dX0_setGood_61 rfl hml.1 hml.2 ?_
              refine x_is3 (q := 63) dX0_setGood_62 rfl rfl ?_
              refine x_ii4 (q := 66) dX0_setGood_63 rfl rfl ⟨by omega, by omega⟩ ?_
              refine x_goto (t := 25) dX0_setGood_66 rfl ?_
              exact ih
set_option maxHeartbeats 4000000 in
set_option maxRecDepth 100000 in
theorem c_lowestGood (hs : Ext sh) (hr : Rok rf) (hst : v 10 0 = (n : Int)) (hg : v 10 1 = mk f n) (hn : n ≤ 7) : Cv g mX0_lowestGood [aR 10] (sh, rf, v) (retI (fi f 0 n) (sh, rf, v)) := by
  have hm := mk_rng f n
  refine x_entry (ls := [some (aR 10), none]) rfl rfl (Nat.le_of_ble_eq_true rfl) ?_
  refine x_ic (q := 1) dX0_lowestGood_0 rfl rfl ?_
  refine x_is1 (q := 2) dX0_lowestGood_1 rfl rfl ?_
  refine x_up (S := fun i => ∀ k, i + k = n → Wv g mX0_lowestGood 0 0 2 [some (aR 10), some (aI (i : Int))] [] (sh, rf, v) (retI (fi f i k) (sh, rf, v))) n ?_ ?_ 0 (Nat.zero_le _) n (Nat.zero_add _)
  · intro k hk
    obtain rfl : k = 0 := by omega
    refine x_il_n (q := 3) dX0_lowestGood_2 rfl rfl ?_
    refine x_al_n (q := 4) dX0_lowestGood_3 rfl rfl ?_
    refine x_getIe (q := 7) (z := (n : Int)) dX0_lowestGood_4 rfl fX0_36 (hs _ _ rfl) rfl (hst) ?_
    refine x_ic_ge (t := 29) (q := 10) dX0_lowestGood_7 rfl rfl (fun c_7 => ?_) (fun c_7 => ?_)
    · skip
      refine x_bi (q := 31) dX0_lowestGood_29 rfl rfl ?_
      exact x_iret dX0_lowestGood_31 rfl rfl (Nat.zero_le _) (retI_mk (by rfl))
    · skip
      exact absurd (Int.le_refl _) c_7
  · intro i hi ih k hk
    obtain ⟨k, rfl⟩ : ∃ j, k = j + 1 := ⟨n - i - 1, by omega⟩
    have ih := ih k (by omega)
    refine x_il_n (q := 3) dX0_lowestGood_2 rfl rfl ?_
    refine x_al_n (q := 4) dX0_lowestGood_3 rfl rfl ?_
    refine x_getIe (q := 7) (z := (n : Int)) dX0_lowestGood_4 rfl fX0_36 (hs _ _ rfl) rfl (hst) ?_
    refine x_ic_ge (t := 29) (q := 10) dX0_lowestGood_7 rfl rfl (fun c_7 => ?_) (fun c_7 => ?_)
    · skip
      exact absurd c_7 (by omega)
    · skip
      refine x_al_n (q := 11) dX0_lowestGood_10 rfl rfl ?_
      refine x_getIe (q := 14) (z := mk f n) dX0_lowestGood_11 rfl fX0_66 (hs _ _ rfl) rfl (hg) ?_
      refine x_il_n (q := 15) dX0_lowestGood_14 rfl rfl ?_
      refine x_SI (q := 18) dX0_lowestGood_15 rfl kX0_lowestGood_69 (c_has hm.1) rfl rfl (Nat.le_of_ble_eq_true rfl) ⟨rfl, rfl⟩ ⟨Nat.zero_le _, Nat.zero_le _⟩ ?_
      rw [has_mk hn]
      refine x_if_eq (t := 23) (q := 21) dX0_lowestGood_18 rfl rfl (fun c_18 => ?_) (fun c_18 => ?_)
      · skip
        rw [fi_f (by rw [inS_nat hi] at c_18; exact b2i_0.mp c_18)]
        refine x_ii1 (q := 26) dX0_lowestGood_23 rfl rfl ⟨by omega, by omega⟩ ?_
        refine x_goto (t := 2) dX0_lowestGood_26 rfl ?_
        exact ih
      · skip
        rw [fi_t (by rw [inS_nat hi] at c_18; exact b2i_n0.mp c_18)]
        refine x_il_n (q := 22) dX0_lowestGood_21 rfl rfl ?_
        exact x_iret dX0_lowestGood_22 rfl rfl (Nat.zero_le _) (retI_mk (by rfl))
/-- whether the arc of s over w leads from a good state to a good one -/
def aG (e : Nat → Nat → Int) (f : Nat → Bool) (n s w : Nat) : Bool := inS f n s && inS f n (e s w)
def RowT (v : Nat → Nat → Int) (e : Nat → Nat → Int) (f : Nat → Bool) (n : Nat) (d : Int) : Prop := ∀ j, j < 112 → v 12 j = tg (aG e f n (j / 16)) d (j % 16)
set_option maxHeartbeats 4000000 in
set_option maxRecDepth 100000 in
theorem c_setTags (hs : Ext sh) (hr : Rok rf) {d : Int} (hd0 : 0 ≤ d) (hE : RowE v e) (hg : v 10 1 = mk f n) (hn : n ≤ 7) : Cv g mX0_setTags [aR 10, aI d] (sh, rf, v) (putL (fun u => RowT u e f n d ∧ ∀ c, c ≠ 12 → u c = v c) sh rf) := by
  have hm := mk_rng f n
  refine x_entry (ls := [some (aR 10), some (aI d), none, none, none, none]) rfl rfl (Nat.le_of_ble_eq_true rfl) ?_
  refine x_ic (q := 1) dX0_setTags_0 rfl rfl ?_
  refine x_is2 (q := 2) dX0_setTags_1 rfl rfl ?_
  refine x_up (S := fun s => ∀ (u : Nat → Nat → Int) (o1 o2 o3 : Option AV), ((∀ j, j < 16 * s → u 12 j = tg (aG e f n (j / 16)) d (j % 16)) ∧ ∀ c, c ≠ 12 → u c = v c) → Wv g mX0_setTags 0 0 2 [some (aR 10), some (aI d), some (aI (s : Int)), o1, o2, o3] [] (sh, rf, u) (putL (fun u => RowT u e f n d ∧ ∀ c, c ≠ 12 → u c = v c) sh rf)) 7 ?_ ?_ 0 (by decide) v none none none ⟨fun j hj => by omega, fun _ _ => rfl⟩
  · intro u o1 o2 o3 ⟨hu1, hu2⟩
    refine x_il_n (q := 3) dX0_setTags_2 rfl rfl ?_
    refine x_bi (q := 5) dX0_setTags_3 rfl rfl ?_
    refine x_ic_ge (t := 103) (q := 8) dX0_setTags_5 rfl rfl (fun c_5 => ?_) (fun c_5 => ?_)
    · skip
      exact x_vret dX0_setTags_103 rfl rfl (Nat.zero_le _) (by exact ⟨rfl, u, rfl, fun j hj => hu1 j (by omega), hu2⟩)
    · skip
      exact absurd (by decide) c_5
  · intro s hs7 ihs u o1 o2 o3 ⟨hu1, hu2⟩
    refine x_il_n (q := 3) dX0_setTags_2 rfl rfl ?_
    refine x_bi (q := 5) dX0_setTags_3 rfl rfl ?_
    refine x_ic_ge (t := 103) (q := 8) dX0_setTags_5 rfl rfl (fun c_5 => ?_) (fun c_5 => ?_)
    · skip
      exact absurd c_5 (by omega)
    · skip
      refine x_ic (q := 9) dX0_setTags_8 rfl rfl ?_
      refine x_is3 (q := 10) dX0_setTags_9 rfl rfl ?_
      refine x_ic (q := 11) dX0_setTags_10 rfl rfl ?_
      refine x_is4 (q := 13) dX0_setTags_11 rfl rfl ?_
      refine x_up (S := fun w => ∀ (u : Nat → Nat → Int) (o3 : Option AV), ((∀ j, j < 16 * s + w → u 12 j = tg (aG e f n (j / 16)) d (j % 16)) ∧ ∀ c, c ≠ 12 → u c = v c) → Wv g mX0_setTags 0 0 13 [some (aR 10), some (aI d), some (aI (s : Int)), some (aI (tcn (aG e f n s) d w)), some (aI (w : Int)), o3] [] (sh, rf, u) (putL (fun u => RowT u e f n d ∧ ∀ c, c ≠ 12 → u c = v c) sh rf)) 16 ?_ ?_ 0 (by decide) u o3 ⟨fun j hj => hu1 j (by omega), hu2⟩
      · intro u o3 ⟨hu1, hu2⟩
        refine x_il (q := 15) dX0_setTags_13 rfl rfl ?_
        refine x_bi (q := 17) dX0_setTags_15 rfl rfl ?_
        refine x_ic_ge (t := 97) (q := 20) dX0_setTags_17 rfl rfl (fun c_17 => ?_) (fun c_17 => ?_)
        · skip
          refine x_ii2 (q := 100) dX0_setTags_97 rfl rfl ⟨by omega, by omega⟩ ?_
          refine x_goto (t := 2) dX0_setTags_100 rfl ?_
          exact ihs u _ _ _ ⟨fun j hj => hu1 j (by omega), hu2⟩
        · skip
          exact absurd (by decide) c_17
      · intro w hw16 ih u o3 ⟨hu1, hu2⟩
        have hb := tcn_rng (aG e f n s) d hd0 w
        refine x_il (q := 15) dX0_setTags_13 rfl rfl ?_
        refine x_bi (q := 17) dX0_setTags_15 rfl rfl ?_
        refine x_ic_ge (t := 97) (q := 20) dX0_setTags_17 rfl rfl (fun c_17 => ?_) (fun c_17 => ?_)
        · skip
          exact absurd c_17 (by omega)
        · skip
          refine x_al_n (q := 21) dX0_setTags_20 rfl rfl ?_
          refine x_getIe (q := 24) (z := mk f n) dX0_setTags_21 rfl fX0_66 (hs _ _ rfl) rfl (by rw [hu2 10 (by decide)]; exact hg) ?_
          refine x_il_n (q := 25) dX0_setTags_24 rfl rfl ?_
          refine x_SI (q := 28) dX0_setTags_25 rfl kX0_setTags_69 (c_has hm.1) rfl rfl (Nat.le_of_ble_eq_true rfl) ⟨rfl, rfl⟩ ⟨Nat.zero_le _, Nat.zero_le _⟩ ?_
          rw [has_mk hn]
          refine x_if_eq (t := 57) (q := 31) dX0_setTags_28 rfl rfl (fun c_28 => ?_) (fun c_28 => ?_)
          · skip
            have hT : (aG e f n s w && decide (tcn (aG e f n s) d w < d)) = false := by unfold aG; rw [b2i_0.mp c_28]; rfl
            refine x_ic (q := 58) dX0_setTags_57 rfl rfl ?_
            refine x_is5 (q := 60) dX0_setTags_58 rfl rfl ?_
            refine x_al_n (q := 61) dX0_setTags_60 rfl rfl ?_
            refine x_getR (q := 64) (o := some (12)) dX0_setTags_61 rfl fX0_15 (hs _ _ rfl) rfl (hr _ _ _ rfl) ?_
            refine x_il_n (q := 65) dX0_setTags_64 rfl rfl ?_
            refine x_bi (q := 67) dX0_setTags_65 rfl rfl ?_
            refine x_mul (q := 68) dX0_setTags_67 rfl ⟨by omega, by omega⟩ ?_
            refine x_il (q := 70) dX0_setTags_68 rfl rfl ?_
            refine x_add (q := 71) dX0_setTags_70 rfl ⟨by omega, by omega⟩ ?_
            refine x_il (q := 73) dX0_setTags_71 rfl rfl ?_
            refine x_if_eq (t := 80) (q := 76) dX0_setTags_73 rfl rfl (fun c_73 => ?_) (fun c_73 => ?_)
            · skip
              refine x_bi (q := 82) dX0_setTags_80 rfl rfl ?_
              refine x_iast (q := 83) dX0_setTags_82 rfl (hs _ _ rfl) (by omega) (by omega) ?_
              refine x_il (q := 85) dX0_setTags_83 rfl rfl ?_
              refine x_if_eq (t := 91) (q := 88) dX0_setTags_85 rfl rfl (fun c_85 => ?_) (fun c_85 => ?_)
              · skip
                refine x_ii4 (q := 94) dX0_setTags_91 rfl rfl ⟨by omega, by omega⟩ ?_
                refine x_goto (t := 13) dX0_setTags_94 rfl ?_
                have hC : tcn (aG e f n s) d (w + 1) = tcn (aG e f n s) d w := by show tcn (aG e f n s) d w + b2i (aG e f n s w && decide (tcn (aG e f n s) d w < d)) = _; rw [hT]; simp [b2i]
                rw [← hC]
                refine ih _ _ ⟨fun j hj => ?_, fun c hc => ?_⟩
                · rw [up_at]
                  by_cases hj2 : j = 16 * s + w
                  · rw [if_pos (by omega), hj2, show (16 * s + w) / 16 = s by omega, show (16 * s + w) % 16 = w by omega]
                    unfold tg
                    rw [if_neg (by rw [hT]; decide)]
                  · rw [if_neg (by omega)]
                    exact hu1 j (by omega)
                · rw [up_n _ _ _ hc]
                  exact hu2 c hc
              · skip
                exact absurd c_85 (by decide)
            · skip
              exact absurd c_73 (by decide)
          · skip
            refine x_al_n (q := 32) dX0_setTags_31 rfl rfl ?_
            refine x_getIe (q := 35) (z := mk f n) dX0_setTags_32 rfl fX0_66 (hs _ _ rfl) rfl (by rw [hu2 10 (by decide)]; exact hg) ?_
            refine x_al_n (q := 36) dX0_setTags_35 rfl rfl ?_
            refine x_il_n (q := 37) dX0_setTags_36 rfl rfl ?_
            refine x_il (q := 39) dX0_setTags_37 rfl rfl ?_
            refine x_VI (q := 42) (ci := 0) dX0_setTags_39 rfl kX0_setTags_73 (c_endOf hs hr) rfl rfl (hs _ _ rfl) (by decide) rfl (Nat.le_of_ble_eq_true rfl) ⟨rfl, rfl⟩ ⟨Nat.zero_le _, Nat.zero_le _⟩ ?_
            rw [endF_e (v := u) (e := e) (fun j hj => by rw [hu2 11 (by decide)]; exact hE j hj) hs7 hw16]
            refine x_SI (q := 45) dX0_setTags_42 rfl kX0_setTags_69 (c_has hm.1) rfl rfl (Nat.le_of_ble_eq_true rfl) ⟨rfl, rfl⟩ ⟨Nat.zero_le _, Nat.zero_le _⟩ ?_
            rw [has_mk hn]
            refine x_if_eq (t := 57) (q := 48) dX0_setTags_45 rfl rfl (fun c_45 => ?_) (fun c_45 => ?_)
            · skip
              have hT : (aG e f n s w && decide (tcn (aG e f n s) d w < d)) = false := by unfold aG; rw [b2i_0.mp c_45]; simp
              refine x_ic (q := 58) dX0_setTags_57 rfl rfl ?_
              refine x_is5 (q := 60) dX0_setTags_58 rfl rfl ?_
              refine x_al_n (q := 61) dX0_setTags_60 rfl rfl ?_
              refine x_getR (q := 64) (o := some (12)) dX0_setTags_61 rfl fX0_15 (hs _ _ rfl) rfl (hr _ _ _ rfl) ?_
              refine x_il_n (q := 65) dX0_setTags_64 rfl rfl ?_
              refine x_bi (q := 67) dX0_setTags_65 rfl rfl ?_
              refine x_mul (q := 68) dX0_setTags_67 rfl ⟨by omega, by omega⟩ ?_
              refine x_il (q := 70) dX0_setTags_68 rfl rfl ?_
              refine x_add (q := 71) dX0_setTags_70 rfl ⟨by omega, by omega⟩ ?_
              refine x_il (q := 73) dX0_setTags_71 rfl rfl ?_
              refine x_if_eq (t := 80) (q := 76) dX0_setTags_73 rfl rfl (fun c_73 => ?_) (fun c_73 => ?_)
              · skip
                refine x_bi (q := 82) dX0_setTags_80 rfl rfl ?_
                refine x_iast (q := 83) dX0_setTags_82 rfl (hs _ _ rfl) (by omega) (by omega) ?_
                refine x_il (q := 85) dX0_setTags_83 rfl rfl ?_
                refine x_if_eq (t := 91) (q := 88) dX0_setTags_85 rfl rfl (fun c_85 => ?_) (fun c_85 => ?_)
                · skip
                  refine x_ii4 (q := 94) dX0_setTags_91 rfl rfl ⟨by omega, by omega⟩ ?_
                  refine x_goto (t := 13) dX0_setTags_94 rfl ?_
                  have hC : tcn (aG e f n s) d (w + 1) = tcn (aG e f n s) d w := by show tcn (aG e f n s) d w + b2i (aG e f n s w && decide (tcn (aG e f n s) d w < d)) = _; rw [hT]; simp [b2i]
                  rw [← hC]
                  refine ih _ _ ⟨fun j hj => ?_, fun c hc => ?_⟩
                  · rw [up_at]
                    by_cases hj2 : j = 16 * s + w
                    · rw [if_pos (by omega), hj2, show (16 * s + w) / 16 = s by omega, show (16 * s + w) % 16 = w by omega]
                      unfold tg
                      rw [if_neg (by rw [hT]; decide)]
                    · rw [if_neg (by omega)]
                      exact hu1 j (by omega)
                  · rw [up_n _ _ _ hc]
                    exact hu2 c hc
                · skip
                  exact absurd c_85 (by decide)
              · skip
                exact absurd c_73 (by decide)
            · skip
              refine x_il_n (q := 49) dX0_setTags_48 rfl rfl ?_
              refine x_il_n (q := 50) dX0_setTags_49 rfl rfl ?_
              refine x_ic_ge (t := 57) (q := 53) dX0_setTags_50 rfl rfl (fun c_50 => ?_) (fun c_50 => ?_)
              · skip
                have hT : (aG e f n s w && decide (tcn (aG e f n s) d w < d)) = false := by rw [decide_eq_false (by omega)]; simp
                refine x_ic (q := 58) dX0_setTags_57 rfl rfl ?_
                refine x_is5 (q := 60) dX0_setTags_58 rfl rfl ?_
                refine x_al_n (q := 61) dX0_setTags_60 rfl rfl ?_
                refine x_getR (q := 64) (o := some (12)) dX0_setTags_61 rfl fX0_15 (hs _ _ rfl) rfl (hr _ _ _ rfl) ?_
                refine x_il_n (q := 65) dX0_setTags_64 rfl rfl ?_
                refine x_bi (q := 67) dX0_setTags_65 rfl rfl ?_
                refine x_mul (q := 68) dX0_setTags_67 rfl ⟨by omega, by omega⟩ ?_
                refine x_il (q := 70) dX0_setTags_68 rfl rfl ?_
                refine x_add (q := 71) dX0_setTags_70 rfl ⟨by omega, by omega⟩ ?_
                refine x_il (q := 73) dX0_setTags_71 rfl rfl ?_
                refine x_if_eq (t := 80) (q := 76) dX0_setTags_73 rfl rfl (fun c_73 => ?_) (fun c_73 => ?_)
                · skip
                  refine x_bi (q := 82) dX0_setTags_80 rfl rfl ?_
                  refine x_iast (q := 83) dX0_setTags_82 rfl (hs _ _ rfl) (by omega) (by omega) ?_
                  refine x_il (q := 85) dX0_setTags_83 rfl rfl ?_
                  refine x_if_eq (t := 91) (q := 88) dX0_setTags_85 rfl rfl (fun c_85 => ?_) (fun c_85 => ?_)
                  · skip
                    refine x_ii4 (q := 94) dX0_setTags_91 rfl rfl ⟨by omega, by omega⟩ ?_
                    refine x_goto (t := 13) dX0_setTags_94 rfl ?_
                    have hC : tcn (aG e f n s) d (w + 1) = tcn (aG e f n s) d w := by show tcn (aG e f n s) d w + b2i (aG e f n s w && decide (tcn (aG e f n s) d w < d)) = _; rw [hT]; simp [b2i]
                    rw [← hC]
                    refine ih _ _ ⟨fun j hj => ?_, fun c hc => ?_⟩
                    · rw [up_at]
                      by_cases hj2 : j = 16 * s + w
                      · rw [if_pos (by omega), hj2, show (16 * s + w) / 16 = s by omega, show (16 * s + w) % 16 = w by omega]
                        unfold tg
                        rw [if_neg (by rw [hT]; decide)]
                      · rw [if_neg (by omega)]
                        exact hu1 j (by omega)
                    · rw [up_n _ _ _ hc]
                      exact hu2 c hc
                  · skip
                    exact absurd c_85 (by decide)
                · skip
                  exact absurd c_73 (by decide)
              · skip
                have hT : (aG e f n s w && decide (tcn (aG e f n s) d w < d)) = true := by rw [decide_eq_true (by omega)]; unfold aG; rw [b2i_n0.mp c_45, b2i_n0.mp c_28]; rfl
                refine x_ic (q := 54) dX0_setTags_53 rfl rfl ?_
                refine x_goto (t := 58) dX0_setTags_54 rfl ?_
                refine x_is5 (q := 60) dX0_setTags_58 rfl rfl ?_
                refine x_al_n (q := 61) dX0_setTags_60 rfl rfl ?_
                refine x_getR (q := 64) (o := some (12)) dX0_setTags_61 rfl fX0_15 (hs _ _ rfl) rfl (hr _ _ _ rfl) ?_
                refine x_il_n (q := 65) dX0_setTags_64 rfl rfl ?_
                refine x_bi (q := 67) dX0_setTags_65 rfl rfl ?_
                refine x_mul (q := 68) dX0_setTags_67 rfl ⟨by omega, by omega⟩ ?_
                refine x_il (q := 70) dX0_setTags_68 rfl rfl ?_
                refine x_add (q := 71) dX0_setTags_70 rfl ⟨by omega, by omega⟩ ?_
                refine x_il (q := 73) dX0_setTags_71 rfl rfl ?_
                refine x_if_eq (t := 80) (q := 76) dX0_setTags_73 rfl rfl (fun c_73 => ?_) (fun c_73 => ?_)
                · skip
                  exact absurd c_73 (by decide)
                · skip
                  refine x_il_n (q := 77) dX0_setTags_76 rfl rfl ?_
                  refine x_goto (t := 82) dX0_setTags_77 rfl ?_
                  refine x_iast (q := 83) dX0_setTags_82 rfl (hs _ _ rfl) (by omega) (by omega) ?_
                  refine x_il (q := 85) dX0_setTags_83 rfl rfl ?_
                  refine x_if_eq (t := 91) (q := 88) dX0_setTags_85 rfl rfl (fun c_85 => ?_) (fun c_85 => ?_)
                  · skip
                    exact absurd c_85 (by decide)
                  · skip
                    refine x_ii3 (q := 91) dX0_setTags_88 rfl rfl ⟨by omega, by omega⟩ ?_
                    refine x_ii4 (q := 94) dX0_setTags_91 rfl rfl ⟨by omega, by omega⟩ ?_
                    refine x_goto (t := 13) dX0_setTags_94 rfl ?_
                    have hC : tcn (aG e f n s) d (w + 1) = tcn (aG e f n s) d w + 1 := by show tcn (aG e f n s) d w + b2i (aG e f n s w && decide (tcn (aG e f n s) d w < d)) = _; rw [hT]; rfl
                    rw [← hC]
                    refine ih _ _ ⟨fun j hj => ?_, fun c hc => ?_⟩
                    · rw [up_at]
                      by_cases hj2 : j = 16 * s + w
                      · rw [if_pos (by omega), hj2, show (16 * s + w) / 16 = s by omega, show (16 * s + w) % 16 = w by omega]
                        unfold tg
                        rw [if_pos hT]
                      · rw [if_neg (by omega)]
                        exact hu1 j (by omega)
                    · rw [up_n _ _ _ hc]
                      exact hu2 c hc
end GOOD

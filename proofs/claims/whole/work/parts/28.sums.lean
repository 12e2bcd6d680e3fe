/-! ===== Sums ===== -/
def RowV (v : Nat → Nat → Int) (x : Nat → Int) : Prop := ∀ s, s < 7 → v 16 s = x s
theorem nat7 {i : Int} (h0 : 0 ≤ i) (h1 : i < 7) : i.toNat < 7 := by omega
section SUM
variable {g : GL} {sh : List (Nat × Nat)} {rf : Nat → Nat → Option Nat} {v : Nat → Nat → Int} {x : Nat → Int} {e : Nat → Nat → Int}

set_option maxHeartbeats 4000000 in
set_option maxRecDepth 100000 in
theorem c_at (hs : Ext sh) (hr : Rok rf) {s : Int} (hx : RowV v x) : Cv g mX4_at [aR 15, aI s] (sh, rf, v) (retI (atx x s) (sh, rf, v)) := by
  refine x_entry (ls := [some (aR 15), some (aI s)]) rfl rfl (Nat.le_of_ble_eq_true rfl) ?_
  refine x_il_n (q := 1) dX4_at_0 rfl rfl ?_
  refine x_if_lt (t := 10) (q := 4) dX4_at_1 rfl rfl (fun c_1 => ?_) (fun c_1 => ?_)
  · skip
    refine x_ic (q := 11) dX4_at_10 rfl rfl ?_
    refine x_goto (t := 20) dX4_at_11 rfl ?_
    exact x_iret dX4_at_20 rfl rfl (Nat.zero_le _) (retI_mk (by first | (rw [atx, if_neg (by omega)]; done) | (rw [atx, if_pos (by omega)])))
  · skip
    refine x_il_n (q := 5) dX4_at_4 rfl rfl ?_
    refine x_bi (q := 7) dX4_at_5 rfl rfl ?_
    refine x_ic_lt (t := 14) (q := 10) dX4_at_7 rfl rfl (fun c_7 => ?_) (fun c_7 => ?_)
    · skip
      refine x_al_n (q := 15) dX4_at_14 rfl rfl ?_
      refine x_getR (q := 18) (o := some (16)) dX4_at_15 rfl fX4_9 (hs _ _ rfl) rfl (hr _ _ _ rfl) ?_
      refine x_il_n (q := 19) dX4_at_18 rfl rfl ?_
      refine x_ialde (q := 20) (z := x s.toNat) dX4_at_19 rfl (hs _ _ rfl) (by omega) (by omega) (hx _ (by omega)) ?_
      exact x_iret dX4_at_20 rfl rfl (Nat.zero_le _) (retI_mk (by first | (rw [atx, if_neg (by omega)]; done) | (rw [atx, if_pos (by omega)])))
    · skip
      refine x_ic (q := 11) dX4_at_10 rfl rfl ?_
      refine x_goto (t := 20) dX4_at_11 rfl ?_
      exact x_iret dX4_at_20 rfl rfl (Nat.zero_le _) (retI_mk (by first | (rw [atx, if_neg (by omega)]; done) | (rw [atx, if_pos (by omega)])))
set_option maxHeartbeats 4000000 in
set_option maxRecDepth 100000 in
theorem c_setAll (hs : Ext sh) (hr : Rok rf) {n z : Int} : Cv g mX4_setAll [aR 15, aI n, aI z] (sh, rf, v) (putL (fun u => (∀ s : Nat, s < 7 → u 16 s = if (s : Int) < n then z else 0) ∧ ∀ c, c ≠ 16 → u c = v c) sh rf) := by
  refine x_entry (ls := [some (aR 15), some (aI n), some (aI z), none]) rfl rfl (Nat.le_of_ble_eq_true rfl) ?_
  refine x_ic (q := 1) dX4_setAll_0 rfl rfl ?_
  refine x_is3 (q := 2) dX4_setAll_1 rfl rfl ?_
  refine x_up (S := fun i => ∀ u : Nat → Nat → Int, ((∀ s : Nat, s < i → u 16 s = if (s : Int) < n then z else 0) ∧ ∀ c, c ≠ 16 → u c = v c) → Wv g mX4_setAll 0 0 2 [some (aR 15), some (aI n), some (aI z), some (aI (i : Int))] [] (sh, rf, u) (putL (fun u => (∀ s : Nat, s < 7 → u 16 s = if (s : Int) < n then z else 0) ∧ ∀ c, c ≠ 16 → u c = v c) sh rf)) 7 ?_ ?_ 0 (Nat.zero_le _) v ⟨fun s hs => by omega, fun _ _ => rfl⟩
  · intro u ⟨hu1, hu2⟩
    refine x_il_n (q := 3) dX4_setAll_2 rfl rfl ?_
    refine x_bi (q := 5) dX4_setAll_3 rfl rfl ?_
    refine x_ic_ge (t := 30) (q := 8) dX4_setAll_5 rfl rfl (fun c_5 => ?_) (fun c_5 => ?_)
    · skip
      exact x_vret dX4_setAll_30 rfl rfl (Nat.zero_le _) (by exact ⟨rfl, u, rfl, hu1, hu2⟩)
    · skip
      exact absurd (by decide) c_5
  · intro i hi ih u ⟨hu1, hu2⟩
    refine x_il_n (q := 3) dX4_setAll_2 rfl rfl ?_
    refine x_bi (q := 5) dX4_setAll_3 rfl rfl ?_
    refine x_ic_ge (t := 30) (q := 8) dX4_setAll_5 rfl rfl (fun c_5 => ?_) (fun c_5 => ?_)
    · skip
      exact absurd c_5 (by omega)
    · skip
      refine x_al_n (q := 9) dX4_setAll_8 rfl rfl ?_
      refine x_getR (q := 12) (o := some (16)) dX4_setAll_9 rfl fX4_9 (hs _ _ rfl) rfl (hr _ _ _ rfl) ?_
      refine x_il_n (q := 13) dX4_setAll_12 rfl rfl ?_
      refine x_il_n (q := 14) dX4_setAll_13 rfl rfl ?_
      refine x_il_n (q := 15) dX4_setAll_14 rfl rfl ?_
      refine x_ic_ge (t := 22) (q := 18) dX4_setAll_15 rfl rfl (fun c_15 => ?_) (fun c_15 => ?_)
      · skip
        refine x_ic (q := 23) dX4_setAll_22 rfl rfl ?_
        refine x_iast (q := 24) dX4_setAll_23 rfl (hs _ _ rfl) (by omega) (by omega) ?_
        refine x_ii3 (q := 27) dX4_setAll_24 rfl rfl ⟨by omega, by omega⟩ ?_
        refine x_goto (t := 2) dX4_setAll_27 rfl ?_
        refine ih _ ⟨fun s hs => ?_, fun c hc => ?_⟩
        · rw [up_at]
          by_cases h2 : s = i
          · rw [if_pos (by omega), h2]
            first | rw [if_pos (by omega)] | rw [if_neg (by omega)]
          · rw [if_neg (by omega)]; exact hu1 s (by omega)
        · rw [up_n _ _ _ hc]; exact hu2 c hc
      · skip
        refine x_il_n (q := 19) dX4_setAll_18 rfl rfl ?_
        refine x_goto (t := 23) dX4_setAll_19 rfl ?_
        refine x_iast (q := 24) dX4_setAll_23 rfl (hs _ _ rfl) (by omega) (by omega) ?_
        refine x_ii3 (q := 27) dX4_setAll_24 rfl rfl ⟨by omega, by omega⟩ ?_
        refine x_goto (t := 2) dX4_setAll_27 rfl ?_
        refine ih _ ⟨fun s hs => ?_, fun c hc => ?_⟩
        · rw [up_at]
          by_cases h2 : s = i
          · rw [if_pos (by omega), h2]
            first | rw [if_pos (by omega)] | rw [if_neg (by omega)]
          · rw [if_neg (by omega)]; exact hu1 s (by omega)
        · rw [up_n _ _ _ hc]; exact hu2 c hc
set_option maxHeartbeats 4000000 in
set_option maxRecDepth 100000 in
theorem c_total (hs : Ext sh) (hr : Rok rf) (hx : RowV v x) : Cv g mX4_total [aR 15] (sh, rf, v) (retI (tw x 7) (sh, rf, v)) := by
  refine x_entry (ls := [some (aR 15), none, none]) rfl rfl (Nat.le_of_ble_eq_true rfl) ?_
  refine x_ic (q := 1) dX4_total_0 rfl rfl ?_
  refine x_is1 (q := 2) dX4_total_1 rfl rfl ?_
  refine x_ic (q := 3) dX4_total_2 rfl rfl ?_
  refine x_is2 (q := 4) dX4_total_3 rfl rfl ?_
  refine x_up (S := fun i => Wv g mX4_total 0 0 4 [some (aR 15), some (aI (tw x i)), some (aI (i : Int))] [] (sh, rf, v) (retI (tw x 7) (sh, rf, v))) 7 ?_ ?_ 0 (Nat.zero_le _)
  · skip
    refine x_il_n (q := 5) dX4_total_4 rfl rfl ?_
    refine x_bi (q := 7) dX4_total_5 rfl rfl ?_
    refine x_ic_ge (t := 25) (q := 10) dX4_total_7 rfl rfl (fun c_7 => ?_) (fun c_7 => ?_)
    · skip
      refine x_il_n (q := 26) dX4_total_25 rfl rfl ?_
      exact x_iret dX4_total_26 rfl rfl (Nat.zero_le _) (retI_mk (by rfl))
    · skip
      exact absurd (by decide) c_7
  · intro i hi ih
    refine x_il_n (q := 5) dX4_total_4 rfl rfl ?_
    refine x_bi (q := 7) dX4_total_5 rfl rfl ?_
    refine x_ic_ge (t := 25) (q := 10) dX4_total_7 rfl rfl (fun c_7 => ?_) (fun c_7 => ?_)
    · skip
      exact absurd c_7 (by omega)
    · skip
      refine x_il_n (q := 11) dX4_total_10 rfl rfl ?_
      refine x_al_n (q := 12) dX4_total_11 rfl rfl ?_
      refine x_getR (q := 15) (o := some (16)) dX4_total_12 rfl fX4_9 (hs _ _ rfl) rfl (hr _ _ _ rfl) ?_
      refine x_il_n (q := 16) dX4_total_15 rfl rfl ?_
      refine x_ialde (q := 17) (z := x i) dX4_total_16 rfl (hs _ _ rfl) (by omega) (by omega) (by rw [Int.toNat_natCast]; exact hx i hi) ?_
      refine x_addw (q := 18) dX4_total_17 rfl ?_
      refine x_is1 (q := 19) dX4_total_18 rfl rfl ?_
      refine x_ii2 (q := 22) dX4_total_19 rfl rfl ⟨by omega, by omega⟩ ?_
      refine x_goto (t := 4) dX4_total_22 rfl ?_
      exact ih
set_option maxHeartbeats 4000000 in
set_option maxRecDepth 100000 in
theorem c_lengthenRows (hs : Ext sh) (hr : Rok rf) {c : Nat} (hb : sh[c]? = some (4, 5)) (hc1 : c ≠ 16) (hc2 : c ≠ 17) (hv : VBan (v c 0) (v c 1) (v c 2)) (hx : RowV v x) : Cv g mX4_lengthenRows [aR 15, aR c] (sh, rf, v) (putL (fun u => RowV u (lr (v c 0) (v c 1) (v c 2) x (2 * (nst (v c 0) (v c 1) (v c 2)).toNat)) ∧ ∀ d, d ≠ 16 → d ≠ 17 → u d = v d) sh rf) := by
  have hn := nst_rng hv
  refine x_entry (ls := [some (aR 15), some (aR c), none, none, none]) rfl rfl (Nat.le_of_ble_eq_true rfl) ?_
  refine x_ic (q := 1) dX4_lengthenRows_0 rfl rfl ?_
  refine x_is2 (q := 2) dX4_lengthenRows_1 rfl rfl ?_
  refine x_up (S := fun i => ∀ u : Nat → Nat → Int, ((∀ s, s < i → u 17 s = 0) ∧ ∀ d, d ≠ 17 → u d = v d) → Wv g mX4_lengthenRows 0 0 2 [some (aR 15), some (aR c), some (aI (i : Int)), none, none] [] (sh, rf, u) (putL (fun u => RowV u (lr (v c 0) (v c 1) (v c 2) x (2 * (nst (v c 0) (v c 1) (v c 2)).toNat)) ∧ ∀ d, d ≠ 16 → d ≠ 17 → u d = v d) sh rf)) 7 ?_ ?_ 0 (Nat.zero_le _) v ⟨fun s hs => by omega, fun _ _ => rfl⟩
  · intro u ⟨hu1, hu2⟩
    refine x_il_n (q := 3) dX4_lengthenRows_2 rfl rfl ?_
    refine x_bi (q := 5) dX4_lengthenRows_3 rfl rfl ?_
    refine x_ic_ge (t := 21) (q := 8) dX4_lengthenRows_5 rfl rfl (fun c_5 => ?_) (fun c_5 => ?_)
    · skip
      refine x_ic (q := 22) dX4_lengthenRows_21 rfl rfl ?_
      refine x_is2 (q := 23) dX4_lengthenRows_22 rfl rfl ?_
      refine x_up (S := fun s => ∀ (u : Nat → Nat → Int) (o1 o2 : Option AV), ((∀ y, y < 7 → u 17 y = lr (v c 0) (v c 1) (v c 2) x (2 * s) y) ∧ ∀ d, d ≠ 17 → u d = v d) → Wv g mX4_lengthenRows 0 0 23 [some (aR 15), some (aR c), some (aI (s : Int)), o1, o2] [] (sh, rf, u) (putL (fun u => RowV u (lr (v c 0) (v c 1) (v c 2) x (2 * (nst (v c 0) (v c 1) (v c 2)).toNat)) ∧ ∀ d, d ≠ 16 → d ≠ 17 → u d = v d) sh rf)) (nst (v c 0) (v c 1) (v c 2)).toNat ?_ ?_ 0 (Nat.zero_le _) u none none ⟨fun s hs => hu1 s hs, hu2⟩
      · intro u o1 o2 ⟨hu1, hu2⟩
        refine x_il_n (q := 24) dX4_lengthenRows_23 rfl rfl ?_
        refine x_bi (q := 26) dX4_lengthenRows_24 rfl rfl ?_
        refine x_ic_ge (t := 92) (q := 29) dX4_lengthenRows_26 rfl rfl (fun c_26 => ?_) (fun c_26 => ?_)
        · skip
          refine x_al_n (q := 93) dX4_lengthenRows_92 rfl rfl ?_
          refine x_getR (q := 96) (o := some (17)) dX4_lengthenRows_93 rfl fX4_15 (by first | exact hs _ _ rfl | exact hb) rfl (hr _ _ _ rfl) ?_
          refine x_ic (q := 97) dX4_lengthenRows_96 rfl rfl ?_
          refine x_al_n (q := 98) dX4_lengthenRows_97 rfl rfl ?_
          refine x_getR (q := 101) (o := some (16)) dX4_lengthenRows_98 rfl fX4_9 (by first | exact hs _ _ rfl | exact hb) rfl (hr _ _ _ rfl) ?_
          refine x_ic (q := 102) dX4_lengthenRows_101 rfl rfl ?_
          refine x_bi (q := 104) dX4_lengthenRows_102 rfl rfl ?_
          refine x_copy (q := 107) dX4_lengthenRows_104 rfl q534 q329 q328 q77 (by first | exact hs _ _ rfl | exact hb) (by first | exact hs _ _ rfl | exact hb) (by decide) (by decide) (by decide) (Nat.le_of_ble_eq_true rfl) (Nat.le_of_ble_eq_true rfl) (Nat.le_of_ble_eq_true rfl) ?_
          refine x_vret dX4_lengthenRows_107 rfl rfl (Nat.zero_le _) ⟨rfl, _, rfl, fun s hs => ?_, fun d h1 h2 => ?_⟩
          · rw [upR_c, if_pos (show s < Int.toNat 7 from hs)]; exact hu1 s hs
          · rw [upR_n _ _ h1]; exact hu2 d h2
        · skip
          refine x_il_n (q := 30) dX4_lengthenRows_29 rfl rfl ?_
          refine x_al_n (q := 31) dX4_lengthenRows_30 rfl rfl ?_
          refine x_VI (q := 34) (ci := 1) dX4_lengthenRows_31 rfl kX4_lengthenRows_49 (c_stateCount (v := u) hb (by rw [hu2 c hc2]; exact hv)) rfl rfl (by first | exact hs _ _ rfl | exact hb) (by decide) rfl (Nat.le_of_ble_eq_true rfl) ⟨rfl, rfl⟩ ⟨Nat.zero_le _, Nat.zero_le _⟩ ?_
          rw [show nst (u c 0) (u c 1) (u c 2) = nst (v c 0) (v c 1) (v c 2) by rw [hu2 c hc2]]
          refine x_ic_ge (t := 92) (q := 37) dX4_lengthenRows_34 rfl rfl (fun c_34 => ?_) (fun c_34 => ?_)
          · skip
            refine x_al_n (q := 93) dX4_lengthenRows_92 rfl rfl ?_
            refine x_getR (q := 96) (o := some (17)) dX4_lengthenRows_93 rfl fX4_15 (by first | exact hs _ _ rfl | exact hb) rfl (hr _ _ _ rfl) ?_
            refine x_ic (q := 97) dX4_lengthenRows_96 rfl rfl ?_
            refine x_al_n (q := 98) dX4_lengthenRows_97 rfl rfl ?_
            refine x_getR (q := 101) (o := some (16)) dX4_lengthenRows_98 rfl fX4_9 (by first | exact hs _ _ rfl | exact hb) rfl (hr _ _ _ rfl) ?_
            refine x_ic (q := 102) dX4_lengthenRows_101 rfl rfl ?_
            refine x_bi (q := 104) dX4_lengthenRows_102 rfl rfl ?_
            refine x_copy (q := 107) dX4_lengthenRows_104 rfl q534 q329 q328 q77 (by first | exact hs _ _ rfl | exact hb) (by first | exact hs _ _ rfl | exact hb) (by decide) (by decide) (by decide) (Nat.le_of_ble_eq_true rfl) (Nat.le_of_ble_eq_true rfl) (Nat.le_of_ble_eq_true rfl) ?_
            refine x_vret dX4_lengthenRows_107 rfl rfl (Nat.zero_le _) ⟨rfl, _, rfl, fun s hs => ?_, fun d h1 h2 => ?_⟩
            · rw [upR_c, if_pos (show s < Int.toNat 7 from hs)]; exact hu1 s hs
            · rw [upR_n _ _ h1]; exact hu2 d h2
          · skip
            exact absurd (by omega) c_34
      · intro s hsn ihs u o1 o2 ⟨hu1, hu2⟩
        refine x_il_n (q := 24) dX4_lengthenRows_23 rfl rfl ?_
        refine x_bi (q := 26) dX4_lengthenRows_24 rfl rfl ?_
        refine x_ic_ge (t := 92) (q := 29) dX4_lengthenRows_26 rfl rfl (fun c_26 => ?_) (fun c_26 => ?_)
        · skip
          exact absurd c_26 (by omega)
        · skip
          refine x_il_n (q := 30) dX4_lengthenRows_29 rfl rfl ?_
          refine x_al_n (q := 31) dX4_lengthenRows_30 rfl rfl ?_
          refine x_VI (q := 34) (ci := 1) dX4_lengthenRows_31 rfl kX4_lengthenRows_49 (c_stateCount (v := u) hb (by rw [hu2 c hc2]; exact hv)) rfl rfl (by first | exact hs _ _ rfl | exact hb) (by decide) rfl (Nat.le_of_ble_eq_true rfl) ⟨rfl, rfl⟩ ⟨Nat.zero_le _, Nat.zero_le _⟩ ?_
          rw [show nst (u c 0) (u c 1) (u c 2) = nst (v c 0) (v c 1) (v c 2) by rw [hu2 c hc2]]
          refine x_ic_ge (t := 92) (q := 37) dX4_lengthenRows_34 rfl rfl (fun c_34 => ?_) (fun c_34 => ?_)
          · skip
            exact absurd c_34 (by omega)
          · skip
            refine x_ic (q := 38) dX4_lengthenRows_37 rfl rfl ?_
            refine x_is3 (q := 39) dX4_lengthenRows_38 rfl rfl ?_
            refine x_up (S := fun b => ∀ (u : Nat → Nat → Int) (o2 : Option AV), ((∀ y, y < 7 → u 17 y = lr (v c 0) (v c 1) (v c 2) x (2 * s + b) y) ∧ ∀ d, d ≠ 17 → u d = v d) → Wv g mX4_lengthenRows 0 0 39 [some (aR 15), some (aR c), some (aI (s : Int)), some (aI (b : Int)), o2] [] (sh, rf, u) (putL (fun u => RowV u (lr (v c 0) (v c 1) (v c 2) x (2 * (nst (v c 0) (v c 1) (v c 2)).toNat)) ∧ ∀ d, d ≠ 16 → d ≠ 17 → u d = v d) sh rf)) 2 ?_ ?_ 0 (Nat.zero_le _) u o2 ⟨hu1, hu2⟩
            · intro u o2 ⟨hu1, hu2⟩
              refine x_il_n (q := 40) dX4_lengthenRows_39 rfl rfl ?_
              refine x_ic (q := 41) dX4_lengthenRows_40 rfl rfl ?_
              refine x_ic_gt (t := 86) (q := 44) dX4_lengthenRows_41 rfl rfl (fun c_41 => ?_) (fun c_41 => ?_)
              · skip
                refine x_ii2 (q := 89) dX4_lengthenRows_86 rfl rfl ⟨by omega, by omega⟩ ?_
                refine x_goto (t := 23) dX4_lengthenRows_89 rfl ?_
                exact ihs u _ _ ⟨hu1, hu2⟩
              · skip
                exact absurd (by decide) c_41
            · intro b hb2 ih u o2 ⟨hu1, hu2⟩
              have hjs : (((2 * s + b) / 2 : Nat) : Int) = (s : Int) := by omega
              have hjb : (((2 * s + b) % 2 : Nat) : Int) = (b : Int) := by omega
              have hjx : (2 * s + b) / 2 = s := by omega
              refine x_il_n (q := 40) dX4_lengthenRows_39 rfl rfl ?_
              refine x_ic (q := 41) dX4_lengthenRows_40 rfl rfl ?_
              refine x_ic_gt (t := 86) (q := 44) dX4_lengthenRows_41 rfl rfl (fun c_41 => ?_) (fun c_41 => ?_)
              · skip
                exact absurd c_41 (by omega)
              · skip
                refine x_al_n (q := 45) dX4_lengthenRows_44 rfl rfl ?_
                refine x_il_n (q := 46) dX4_lengthenRows_45 rfl rfl ?_
                refine x_il_n (q := 47) dX4_lengthenRows_46 rfl rfl ?_
                refine x_VI (q := 50) (ci := 1) dX4_lengthenRows_47 rfl kX4_lengthenRows_52 (c_lead (v := u) hb (by rw [hu2 c hc2]; exact hv) (by omega) (by rw [hu2 c hc2]; omega) (by omega)) rfl rfl (by first | exact hs _ _ rfl | exact hb) (by decide) rfl (Nat.le_of_ble_eq_true rfl) ⟨rfl, rfl⟩ ⟨Nat.zero_le _, Nat.zero_le _⟩ ?_
                rw [show stp (u c 0) (u c 1) (u c 2) s b = stp (v c 0) (v c 1) (v c 2) s b by rw [hu2 c hc2]]
                have hr0 := stp_rng (s := s) (b := b) hv (by omega) (by omega)
                refine x_is4 (q := 52) dX4_lengthenRows_50 rfl rfl ?_
                refine x_il (q := 54) dX4_lengthenRows_52 rfl rfl ?_
                refine x_if_lt (t := 80) (q := 57) dX4_lengthenRows_54 rfl rfl (fun c_54 => ?_) (fun c_54 => ?_)
                · skip
                  have hJ : lr (v c 0) (v c 1) (v c 2) x (2 * s + b + 1) = lr (v c 0) (v c 1) (v c 2) x (2 * s + b) := by show (if _ = -9 then _ else _) = _; rw [if_pos (by rw [hjs, hjb]; omega)]
                  refine x_ii3 (q := 83) dX4_lengthenRows_80 rfl rfl ⟨by omega, by omega⟩ ?_
                  refine x_goto (t := 39) dX4_lengthenRows_83 rfl ?_
                  refine ih _ _ ⟨fun y hy => ?_, hu2⟩
                  rw [show 2 * s + (b + 1) = 2 * s + b + 1 by omega, hJ]; exact hu1 y hy
                · skip
                  refine x_il (q := 59) dX4_lengthenRows_57 rfl rfl ?_
                  refine x_bi (q := 61) dX4_lengthenRows_59 rfl rfl ?_
                  refine x_ic_ge (t := 80) (q := 64) dX4_lengthenRows_61 rfl rfl (fun c_61 => ?_) (fun c_61 => ?_)
                  · skip
                    exact absurd c_61 (by omega)
                  · skip
                    have hJ : lr (v c 0) (v c 1) (v c 2) x (2 * s + b + 1) = upx (lr (v c 0) (v c 1) (v c 2) x (2 * s + b)) (stp (v c 0) (v c 1) (v c 2) s b).toNat (wr (lr (v c 0) (v c 1) (v c 2) x (2 * s + b) (stp (v c 0) (v c 1) (v c 2) s b).toNat + x s)) := by show (if _ = -9 then _ else _) = _; rw [hjs, hjb, if_neg (by omega), hjx]
                    refine x_al_n (q := 65) dX4_lengthenRows_64 rfl rfl ?_
                    refine x_getR (q := 68) (o := some (17)) dX4_lengthenRows_65 rfl fX4_15 (by first | exact hs _ _ rfl | exact hb) rfl (hr _ _ _ rfl) ?_
                    refine x_il (q := 70) dX4_lengthenRows_68 rfl rfl ?_
                    refine x_dup2 (q := 71) dX4_lengthenRows_70 rfl rfl rfl ?_
                    refine x_ialde (q := 72) (z := lr (v c 0) (v c 1) (v c 2) x (2 * s + b) (stp (v c 0) (v c 1) (v c 2) s b).toNat) dX4_lengthenRows_71 rfl (by first | exact hs _ _ rfl | exact hb) (by omega) (by omega) (hu1 _ (by omega)) ?_
                    refine x_al_n (q := 73) dX4_lengthenRows_72 rfl rfl ?_
                    refine x_getR (q := 76) (o := some (16)) dX4_lengthenRows_73 rfl fX4_9 (by first | exact hs _ _ rfl | exact hb) rfl (hr _ _ _ rfl) ?_
                    refine x_il_n (q := 77) dX4_lengthenRows_76 rfl rfl ?_
                    refine x_ialde (q := 78) (z := x s) dX4_lengthenRows_77 rfl (by first | exact hs _ _ rfl | exact hb) (by omega) (by omega) (by rw [hu2 16 (by decide), Int.toNat_natCast]; exact hx s (by omega)) ?_
                    refine x_addw (q := 79) dX4_lengthenRows_78 rfl ?_
                    refine x_iast (q := 80) dX4_lengthenRows_79 rfl (by first | exact hs _ _ rfl | exact hb) (by omega) (by omega) ?_
                    refine x_ii3 (q := 83) dX4_lengthenRows_80 rfl rfl ⟨by omega, by omega⟩ ?_
                    refine x_goto (t := 39) dX4_lengthenRows_83 rfl ?_
                    refine ih _ _ ⟨fun y hy => ?_, fun d hd => ?_⟩
                    · rw [show 2 * s + (b + 1) = 2 * s + b + 1 by omega, hJ, up_at]
                      unfold upx
                      split
                      · rfl
                      · exact hu1 y hy
                    · rw [up_n _ _ _ hd]; exact hu2 d hd
    · skip
      exact absurd (by decide) c_5
  · intro i hi ih u ⟨hu1, hu2⟩
    refine x_il_n (q := 3) dX4_lengthenRows_2 rfl rfl ?_
    refine x_bi (q := 5) dX4_lengthenRows_3 rfl rfl ?_
    refine x_ic_ge (t := 21) (q := 8) dX4_lengthenRows_5 rfl rfl (fun c_5 => ?_) (fun c_5 => ?_)
    · skip
      exact absurd c_5 (by omega)
    · skip
      refine x_al_n (q := 9) dX4_lengthenRows_8 rfl rfl ?_
      refine x_getR (q := 12) (o := some (17)) dX4_lengthenRows_9 rfl fX4_15 (hs _ _ rfl) rfl (hr _ _ _ rfl) ?_
      refine x_il_n (q := 13) dX4_lengthenRows_12 rfl rfl ?_
      refine x_ic (q := 14) dX4_lengthenRows_13 rfl rfl ?_
      refine x_iast (q := 15) dX4_lengthenRows_14 rfl (hs _ _ rfl) (by omega) (by omega) ?_
      refine x_ii2 (q := 18) dX4_lengthenRows_15 rfl rfl ⟨by omega, by omega⟩ ?_
      refine x_goto (t := 2) dX4_lengthenRows_18 rfl ?_
      refine ih _ ⟨fun s hs => ?_, fun d hd => ?_⟩
      · rw [up_at]
        by_cases h2 : s = i
        · rw [if_pos (by omega)]
        · rw [if_neg (by omega)]; exact hu1 s (by omega)
      · rw [up_n _ _ _ hd]; exact hu2 d hd
set_option maxHeartbeats 4000000 in
set_option maxRecDepth 100000 in
theorem c_countRows (hs : Ext sh) (hr : Rok rf) {c n : Nat} (hn20 : n ≤ 20) (hb : sh[c]? = some (4, 5)) (hc1 : c ≠ 16) (hc2 : c ≠ 17) (hv : VBan (v c 0) (v c 1) (v c 2)) : Cv g mX4_countRows [aR 15, aR c, aI (n : Int)] (sh, rf, v) (fun r h1 => r = some (aI (rowsN (v c 0) (v c 1) (v c 2) n)) ∧ ∃ u, h1 = (sh, rf, u) ∧ ∀ d, d ≠ 16 → d ≠ 17 → u d = v d) := by
  have hn := nst_rng hv
  have hst := stt_rng hv
  refine x_entry (ls := [some (aR 15), some (aR c), some (aI (n : Int)), none, none]) rfl rfl (Nat.le_of_ble_eq_true rfl) ?_
  refine x_al_n (q := 1) dX4_countRows_0 rfl rfl ?_
  refine x_bi (q := 3) dX4_countRows_1 rfl rfl ?_
  refine x_ic (q := 4) dX4_countRows_3 rfl rfl ?_
  refine x_V (q := 7) (ci := 4) dX4_countRows_4 rfl kX4_countRows_18 (c_setAll hs hr (n := 7) (z := 0)) rfl rfl (by first | exact hs _ _ rfl | exact hb) (by decide) rfl (Nat.le_of_ble_eq_true rfl) ⟨rfl, rfl⟩ ⟨Nat.zero_le _, Nat.zero_le _⟩ (fun r1 h1 hp => ?_)
  obtain ⟨rfl, u, rfl, hu1, hu2⟩ := hp
  refine x_al_n (q := 8) dX4_countRows_7 rfl rfl ?_
  refine x_VI (q := 11) (ci := 1) dX4_countRows_8 rfl kX4_countRows_22 (c_start (v := u) hb) rfl rfl (by first | exact hs _ _ rfl | exact hb) (by decide) rfl (Nat.le_of_ble_eq_true rfl) ⟨rfl, rfl⟩ ⟨Nat.zero_le _, Nat.zero_le _⟩ ?_
  rw [show (if u c 0 = 1 then u c 1 else 0) = stt (v c 0) (v c 1) by rw [hu2 c hc1]; rfl]
  refine x_is3 (q := 12) dX4_countRows_11 rfl rfl ?_
  refine x_il_n (q := 13) dX4_countRows_12 rfl rfl ?_
  refine x_if_lt (t := 29) (q := 16) dX4_countRows_13 rfl rfl (fun c_13 => ?_) (fun c_13 => ?_)
  · skip
    exact absurd c_13 (by omega)
  · skip
    refine x_il_n (q := 17) dX4_countRows_16 rfl rfl ?_
    refine x_bi (q := 19) dX4_countRows_17 rfl rfl ?_
    refine x_ic_ge (t := 29) (q := 22) dX4_countRows_19 rfl rfl (fun c_19 => ?_) (fun c_19 => ?_)
    · skip
      exact absurd c_19 (by omega)
    · skip
      refine x_al_n (q := 23) dX4_countRows_22 rfl rfl ?_
      refine x_getR (q := 26) (o := some (16)) dX4_countRows_23 rfl fX4_9 (by first | exact hs _ _ rfl | exact hb) rfl (hr _ _ _ rfl) ?_
      refine x_il_n (q := 27) dX4_countRows_26 rfl rfl ?_
      refine x_ic (q := 28) dX4_countRows_27 rfl rfl ?_
      refine x_iast (q := 29) dX4_countRows_28 rfl (by first | exact hs _ _ rfl | exact hb) (by omega) (by omega) ?_
      refine x_ic (q := 30) dX4_countRows_29 rfl rfl ?_
      refine x_is4 (q := 32) dX4_countRows_30 rfl rfl ?_
      refine x_up (S := fun i => ∀ u : Nat → Nat → Int, (RowV u (RW (v c 0) (v c 1) (v c 2) i) ∧ ∀ d, d ≠ 16 → d ≠ 17 → u d = v d) → Wv g mX4_countRows 0 0 32 [some (aR 15), some (aR c), some (aI (n : Int)), some (aI (stt (v c 0) (v c 1))), some (aI (i : Int))] [] (sh, rf, u) (fun r h1 => r = some (aI (rowsN (v c 0) (v c 1) (v c 2) n)) ∧ ∃ u, h1 = (sh, rf, u) ∧ ∀ d, d ≠ 16 → d ≠ 17 → u d = v d)) n ?_ ?_ 0 (Nat.zero_le _) _ ⟨fun s hs => ?_, fun d h1 h2 => by rw [up_n _ _ _ h1]; exact hu2 d h1⟩
      · intro u ⟨hu1, hu2⟩
        refine x_il (q := 34) dX4_countRows_32 rfl rfl ?_
        refine x_il_n (q := 35) dX4_countRows_34 rfl rfl ?_
        refine x_ic_ge (t := 49) (q := 38) dX4_countRows_35 rfl rfl (fun c_35 => ?_) (fun c_35 => ?_)
        · skip
          refine x_al_n (q := 50) dX4_countRows_49 rfl rfl ?_
          refine x_VI (q := 53) (ci := 4) dX4_countRows_50 rfl kX4_countRows_32 (c_total hs hr (v := u) hu1) rfl rfl (by first | exact hs _ _ rfl | exact hb) (by decide) rfl (Nat.le_of_ble_eq_true rfl) ⟨rfl, rfl⟩ ⟨Nat.zero_le _, Nat.zero_le _⟩ ?_
          rw [tw_7 (n := (nst (v c 0) (v c 1) (v c 2)).toNat) (by omega) (fun s hs => RW_out hv n s (by omega))]
          exact x_iret dX4_countRows_53 rfl rfl (Nat.zero_le _) ⟨rfl, u, rfl, hu2⟩
        · skip
          exact absurd (Int.le_refl _) c_35
      · intro i hi ih u ⟨hu1, hu2⟩
        refine x_il (q := 34) dX4_countRows_32 rfl rfl ?_
        refine x_il_n (q := 35) dX4_countRows_34 rfl rfl ?_
        refine x_ic_ge (t := 49) (q := 38) dX4_countRows_35 rfl rfl (fun c_35 => ?_) (fun c_35 => ?_)
        · skip
          exact absurd c_35 (by omega)
        · skip
          refine x_al_n (q := 39) dX4_countRows_38 rfl rfl ?_
          refine x_al_n (q := 40) dX4_countRows_39 rfl rfl ?_
          refine x_V (q := 43) (ci := 4) dX4_countRows_40 rfl kX4_countRows_28 (c_lengthenRows hs hr (v := u) hb hc1 hc2 (by rw [hu2 c hc1 hc2]; exact hv) hu1) rfl rfl (by first | exact hs _ _ rfl | exact hb) (by decide) rfl (Nat.le_of_ble_eq_true rfl) ⟨rfl, rfl⟩ ⟨Nat.zero_le _, Nat.zero_le _⟩ (fun r1 h1 hp => ?_)
          obtain ⟨rfl, u2, rfl, h5, h6⟩ := hp
          rw [hu2 c hc1 hc2] at h5
          refine x_ii4 (q := 46) dX4_countRows_43 rfl rfl ⟨by omega, by omega⟩ ?_
          refine x_goto (t := 32) dX4_countRows_46 rfl ?_
          exact ih u2 ⟨h5, fun d h1 h2 => by rw [h6 d h1 h2]; exact hu2 d h1 h2⟩
      rw [up_at]
      show _ = (if (s : Int) = stt (v c 0) (v c 1) then (1 : Int) else 0)
      by_cases h2 : (s : Int) = stt (v c 0) (v c 1)
      · rw [if_pos (by omega), if_pos h2]
      · rw [if_neg (by omega), if_neg h2, hu1 s hs]; split <;> rfl
set_option maxHeartbeats 4000000 in
set_option maxRecDepth 100000 in
theorem c_sumOver (hs : Ext sh) (hr : Rok rf) {s : Nat} (hs7 : s < 7) (hE : RowE v e) (hx : RowV v x) (hx9 : ∀ s, 0 ≤ x s ∧ x s ≤ 9) : Cv g mX4_sumOver [aR 15, aR 10, aI (s : Int)] (sh, rf, v) (retI (so16 e x s 16) (sh, rf, v)) := by
  refine x_entry (ls := [some (aR 15), some (aR 10), some (aI (s : Int)), none, none]) rfl rfl (Nat.le_of_ble_eq_true rfl) ?_
  refine x_ic (q := 1) dX4_sumOver_0 rfl rfl ?_
  refine x_is3 (q := 2) dX4_sumOver_1 rfl rfl ?_
  refine x_ic (q := 3) dX4_sumOver_2 rfl rfl ?_
  refine x_is4 (q := 5) dX4_sumOver_3 rfl rfl ?_
  refine x_up (S := fun i => Wv g mX4_sumOver 0 0 5 [some (aR 15), some (aR 10), some (aI (s : Int)), some (aI (so16 e x s i)), some (aI (i : Int))] [] (sh, rf, v) (retI (so16 e x s 16) (sh, rf, v))) 16 ?_ ?_ 0 (Nat.zero_le _)
  · skip
    refine x_il (q := 7) dX4_sumOver_5 rfl rfl ?_
    refine x_bi (q := 9) dX4_sumOver_7 rfl rfl ?_
    refine x_ic_ge (t := 32) (q := 12) dX4_sumOver_9 rfl rfl (fun c_9 => ?_) (fun c_9 => ?_)
    · skip
      refine x_il_n (q := 33) dX4_sumOver_32 rfl rfl ?_
      exact x_iret dX4_sumOver_33 rfl rfl (Nat.zero_le _) (retI_mk (by rfl))
    · skip
      exact absurd (by decide) c_9
  · intro i hi ih
    have hb := so16_rng (e := e) hx9 s i
    have hb2 := atx_rng hx9 (e s i)
    refine x_il (q := 7) dX4_sumOver_5 rfl rfl ?_
    refine x_bi (q := 9) dX4_sumOver_7 rfl rfl ?_
    refine x_ic_ge (t := 32) (q := 12) dX4_sumOver_9 rfl rfl (fun c_9 => ?_) (fun c_9 => ?_)
    · skip
      exact absurd c_9 (by omega)
    · skip
      refine x_il_n (q := 13) dX4_sumOver_12 rfl rfl ?_
      refine x_al_n (q := 14) dX4_sumOver_13 rfl rfl ?_
      refine x_al_n (q := 15) dX4_sumOver_14 rfl rfl ?_
      refine x_il_n (q := 16) dX4_sumOver_15 rfl rfl ?_
      refine x_il (q := 18) dX4_sumOver_16 rfl rfl ?_
      refine x_VI (q := 21) (ci := 0) dX4_sumOver_18 rfl kX4_sumOver_71 (c_endOf hs hr) rfl rfl (hs _ _ rfl) (by decide) rfl (Nat.le_of_ble_eq_true rfl) ⟨rfl, rfl⟩ ⟨Nat.zero_le _, Nat.zero_le _⟩ ?_
      rw [endF_e hE hs7 hi]
      refine x_VI (q := 24) (ci := 4) dX4_sumOver_21 rfl kX4_sumOver_45 (c_at hs hr hx) rfl rfl (hs _ _ rfl) (by decide) rfl (Nat.le_of_ble_eq_true rfl) ⟨rfl, rfl⟩ ⟨Nat.zero_le _, Nat.zero_le _⟩ ?_
      refine x_add (q := 25) dX4_sumOver_24 rfl ⟨by omega, by omega⟩ ?_
      refine x_is3 (q := 26) dX4_sumOver_25 rfl rfl ?_
      refine x_ii4 (q := 29) dX4_sumOver_26 rfl rfl ⟨by omega, by omega⟩ ?_
      refine x_goto (t := 5) dX4_sumOver_29 rfl ?_
      exact ih
set_option maxHeartbeats 4000000 in
set_option maxRecDepth 100000 in
theorem c_lessen (hs : Ext sh) (hr : Rok rf) {p : Int} (hp0 : 0 ≤ p) (hp1 : p ≤ 20) (hE : RowE v e) (hx : RowV v x) (hx9 : ∀ s, 0 ≤ x s ∧ x s ≤ 9) : Cv g mX4_lessen [aR 15, aR 10, aI p] (sh, rf, v) (fun r h1 => r = some (aI (b2i (anyN (fun s => !decide (lsn e p x s = x s)) 7))) ∧ ∃ u, h1 = (sh, rf, u) ∧ RowV u (lsn e p x) ∧ ∀ d, d ≠ 16 → d ≠ 17 → u d = v d) := by
  refine x_entry (ls := [some (aR 15), some (aR 10), some (aI p), none, none]) rfl rfl (Nat.le_of_ble_eq_true rfl) ?_
  refine x_ic (q := 1) dX4_lessen_0 rfl rfl ?_
  refine x_is3 (q := 2) dX4_lessen_1 rfl rfl ?_
  refine x_ic (q := 3) dX4_lessen_2 rfl rfl ?_
  refine x_is4 (q := 5) dX4_lessen_3 rfl rfl ?_
  refine x_up (S := fun i => ∀ u : Nat → Nat → Int, ((∀ s, s < i → u 17 s = lsn e p x s) ∧ ∀ d, d ≠ 17 → u d = v d) → Wv g mX4_lessen 0 0 5 [some (aR 15), some (aR 10), some (aI p), some (aI (b2i (anyN (fun s => !decide (lsn e p x s = x s)) i))), some (aI (i : Int))] [] (sh, rf, u) (fun r h1 => r = some (aI (b2i (anyN (fun s => !decide (lsn e p x s = x s)) 7))) ∧ ∃ u, h1 = (sh, rf, u) ∧ RowV u (lsn e p x) ∧ ∀ d, d ≠ 16 → d ≠ 17 → u d = v d)) 7 ?_ ?_ 0 (Nat.zero_le _) v ⟨fun s hs => by omega, fun _ _ => rfl⟩
  · intro u ⟨hu1, hu2⟩
    refine x_il (q := 7) dX4_lessen_5 rfl rfl ?_
    refine x_bi (q := 9) dX4_lessen_7 rfl rfl ?_
    refine x_ic_ge (t := 63) (q := 12) dX4_lessen_9 rfl rfl (fun c_9 => ?_) (fun c_9 => ?_)
    · skip
      refine x_al_n (q := 64) dX4_lessen_63 rfl rfl ?_
      refine x_getR (q := 67) (o := some (17)) dX4_lessen_64 rfl fX4_15 (hs _ _ rfl) rfl (hr _ _ _ rfl) ?_
      refine x_ic (q := 68) dX4_lessen_67 rfl rfl ?_
      refine x_al_n (q := 69) dX4_lessen_68 rfl rfl ?_
      refine x_getR (q := 72) (o := some (16)) dX4_lessen_69 rfl fX4_9 (hs _ _ rfl) rfl (hr _ _ _ rfl) ?_
      refine x_ic (q := 73) dX4_lessen_72 rfl rfl ?_
      refine x_bi (q := 75) dX4_lessen_73 rfl rfl ?_
      refine x_copy (q := 78) dX4_lessen_75 rfl q534 q329 q328 q77 (hs _ _ rfl) (hs _ _ rfl) (by decide) (by decide) (by decide) (Nat.le_of_ble_eq_true rfl) (Nat.le_of_ble_eq_true rfl) (Nat.le_of_ble_eq_true rfl) ?_
      refine x_il_n (q := 79) dX4_lessen_78 rfl rfl ?_
      refine x_zret dX4_lessen_79 rfl (b2i_01 _) rfl (Nat.zero_le _) ⟨rfl, _, rfl, fun s hs => ?_, fun d h1 h2 => ?_⟩
      · rw [upR_c, if_pos (show s < Int.toNat 7 from hs)]; exact hu1 s hs
      · rw [upR_n _ _ h1]; exact hu2 d h2
    · skip
      exact absurd (by decide) c_9
  · intro i hi ih u ⟨hu1, hu2⟩
    have hso := so16_rng (e := e) hx9 i 16
    refine x_il (q := 7) dX4_lessen_5 rfl rfl ?_
    refine x_bi (q := 9) dX4_lessen_7 rfl rfl ?_
    refine x_ic_ge (t := 63) (q := 12) dX4_lessen_9 rfl rfl (fun c_9 => ?_) (fun c_9 => ?_)
    · skip
      exact absurd c_9 (by omega)
    · skip
      refine x_al_n (q := 13) dX4_lessen_12 rfl rfl ?_
      refine x_getR (q := 16) (o := some (17)) dX4_lessen_13 rfl fX4_15 (hs _ _ rfl) rfl (hr _ _ _ rfl) ?_
      refine x_il (q := 18) dX4_lessen_16 rfl rfl ?_
      refine x_al_n (q := 19) dX4_lessen_18 rfl rfl ?_
      refine x_getR (q := 22) (o := some (16)) dX4_lessen_19 rfl fX4_9 (hs _ _ rfl) rfl (hr _ _ _ rfl) ?_
      refine x_il (q := 24) dX4_lessen_22 rfl rfl ?_
      refine x_ialde (q := 25) (z := x i) dX4_lessen_24 rfl (hs _ _ rfl) (by omega) (by omega) (by rw [hu2 16 (by decide), Int.toNat_natCast]; exact hx i hi) ?_
      refine x_al_n (q := 26) dX4_lessen_25 rfl rfl ?_
      refine x_al_n (q := 27) dX4_lessen_26 rfl rfl ?_
      refine x_il (q := 29) dX4_lessen_27 rfl rfl ?_
      refine x_VI (q := 32) (ci := 4) dX4_lessen_29 rfl kX4_lessen_62 (c_sumOver hs hr (v := u) (e := e) (x := x) hi (fun j hj => by rw [hu2 11 (by decide)]; exact hE j hj) (fun s hs => by rw [hu2 16 (by decide)]; exact hx s hs) hx9) rfl rfl (hs _ _ rfl) (by decide) rfl (Nat.le_of_ble_eq_true rfl) ⟨rfl, rfl⟩ ⟨Nat.zero_le _, Nat.zero_le _⟩ ?_
      refine x_il_n (q := 33) dX4_lessen_32 rfl rfl ?_
      refine x_shr (q := 34) dX4_lessen_33 rfl (by omega) (by omega) (by omega) ?_
      refine x_min (q := 37) dX4_lessen_34 rfl q533 q247 q76 q248 (Nat.le_of_ble_eq_true rfl) (Nat.le_of_ble_eq_true rfl) (Nat.zero_le _) (Nat.zero_le _) (Nat.le_of_ble_eq_true rfl) ?_
      rw [show (if so16 e x i 16 / 2 ^ p.toNat < x i then so16 e x i 16 / 2 ^ p.toNat else x i) = lsn e p x i from rfl]
      refine x_iast (q := 38) dX4_lessen_37 rfl (hs _ _ rfl) (by omega) (by omega) ?_
      refine x_al_n (q := 39) dX4_lessen_38 rfl rfl ?_
      refine x_getR (q := 42) (o := some (17)) dX4_lessen_39 rfl fX4_15 (hs _ _ rfl) rfl (hr _ _ _ rfl) ?_
      refine x_il (q := 44) dX4_lessen_42 rfl rfl ?_
      refine x_ialde (q := 45) (z := lsn e p x i) dX4_lessen_44 rfl (hs _ _ rfl) (by omega) (by omega) (by rw [up_at, if_pos rfl]) ?_
      refine x_al_n (q := 46) dX4_lessen_45 rfl rfl ?_
      refine x_getR (q := 49) (o := some (16)) dX4_lessen_46 rfl fX4_9 (hs _ _ rfl) rfl (hr _ _ _ rfl) ?_
      refine x_il (q := 51) dX4_lessen_49 rfl rfl ?_
      refine x_ialde (q := 52) (z := x i) dX4_lessen_51 rfl (hs _ _ rfl) (by omega) (by omega) (by rw [up_n _ _ _ (by decide), hu2 16 (by decide), Int.toNat_natCast]; exact hx i hi) ?_
      refine x_ic_eq (t := 57) (q := 55) dX4_lessen_52 rfl rfl (fun c_52 => ?_) (fun c_52 => ?_)
      · skip
        have hF : anyN (fun s => !decide (lsn e p x s = x s)) (i + 1) = anyN (fun s => !decide (lsn e p x s = x s)) i := by show (_ || !decide (lsn e p x i = x i)) = _; rw [decide_eq_true c_52]; simp
        rw [hF] at ih
        refine x_ii4 (q := 60) dX4_lessen_57 rfl rfl ⟨by omega, by omega⟩ ?_
        refine x_goto (t := 5) dX4_lessen_60 rfl ?_
        refine ih _ ⟨fun s hs => ?_, fun d hd => ?_⟩
        · rw [up_at]
          by_cases h2 : s = i
          · rw [if_pos (by omega), h2]
          · rw [if_neg (by omega)]; exact hu1 s (by omega)
        · rw [up_n _ _ _ hd]; exact hu2 d hd
      · skip
        have hF : anyN (fun s => !decide (lsn e p x s = x s)) (i + 1) = true := by show (_ || !decide (lsn e p x i = x i)) = true; rw [decide_eq_false c_52]; simp
        rw [hF] at ih
        refine x_ic (q := 56) dX4_lessen_55 rfl rfl ?_
        refine x_is3 (q := 57) dX4_lessen_56 rfl rfl ?_
        refine x_ii4 (q := 60) dX4_lessen_57 rfl rfl ⟨by omega, by omega⟩ ?_
        refine x_goto (t := 5) dX4_lessen_60 rfl ?_
        refine ih _ ⟨fun s hs => ?_, fun d hd => ?_⟩
        · rw [up_at]
          by_cases h2 : s = i
          · rw [if_pos (by omega), h2]
          · rw [if_neg (by omega)]; exact hu1 s (by omega)
        · rw [up_n _ _ _ hd]; exact hu2 d hd
set_option maxHeartbeats 4000000 in
set_option maxRecDepth 100000 in
theorem c_settle (hs : Ext sh) (hr : Rok rf) {p l : Int} {n : Nat} (hp0 : 0 ≤ p) (hp1 : p ≤ 20) (hl0 : 0 ≤ l) (hl1 : l ≤ 9) (hE : RowE v e) (hst : v 10 0 = (n : Int)) : Cv g mX4_settle [aR 15, aR 10, aI p, aI l] (sh, rf, v) (putL (fun u => RowV u (WT e p l n) ∧ ∀ d, d ≠ 16 → d ≠ 17 → u d = v d) sh rf) := by
  have h9 := x0l_rng (n := n) hl0 hl1
  refine x_entry (ls := [some (aR 15), some (aR 10), some (aI p), some (aI l), none, none]) rfl rfl (Nat.le_of_ble_eq_true rfl) ?_
  refine x_al_n (q := 1) dX4_settle_0 rfl rfl ?_
  refine x_al_n (q := 2) dX4_settle_1 rfl rfl ?_
  refine x_getIe (q := 5) (z := (n : Int)) dX4_settle_2 rfl fX4_35 (hs _ _ rfl) rfl (hst) ?_
  refine x_il_n (q := 6) dX4_settle_5 rfl rfl ?_
  refine x_V (q := 9) (ci := 4) dX4_settle_6 rfl kX4_settle_18 (c_setAll hs hr (n := (n : Int)) (z := l)) rfl rfl (hs _ _ rfl) (by decide) rfl (Nat.le_of_ble_eq_true rfl) ⟨rfl, rfl⟩ ⟨Nat.zero_le _, Nat.zero_le _⟩ (fun r1 h1 hp => ?_)
  obtain ⟨rfl, u, rfl, hu1, hu2⟩ := hp
  refine x_ic (q := 10) dX4_settle_9 rfl rfl ?_
  refine x_is4 (q := 12) dX4_settle_10 rfl rfl ?_
  refine x_ic (q := 13) dX4_settle_12 rfl rfl ?_
  refine x_is5 (q := 15) dX4_settle_13 rfl rfl ?_
  refine x_up (S := fun k => ∀ (u : Nat → Nat → Int) (ch : Int), (RowV u (wk e p (x0l l n) k) ∧ (∀ d, d ≠ 16 → d ≠ 17 → u d = v d) ∧ (ch = 1 ∨ (ch = 0 ∧ ∀ s, s < 7 → wk e p (x0l l n) k s = WT e p l n s))) → Wv g mX4_settle 0 0 15 [some (aR 15), some (aR 10), some (aI p), some (aI l), some (aI ch), some (aI (k : Int))] [] (sh, rf, u) (putL (fun u => RowV u (WT e p l n) ∧ ∀ d, d ≠ 16 → d ≠ 17 → u d = v d) sh rf)) 100 ?_ ?_ 0 (Nat.zero_le _) u 1 ⟨fun s hs => ?_, fun d h1 _ => hu2 d h1, .inl rfl⟩
  · intro u ch ⟨hu1, hu2, hch⟩
    refine x_il (q := 17) dX4_settle_15 rfl rfl ?_
    refine x_bi (q := 19) dX4_settle_17 rfl rfl ?_
    refine x_ic_ge (t := 41) (q := 22) dX4_settle_19 rfl rfl (fun c_19 => ?_) (fun c_19 => ?_)
    · skip
      exact x_vret dX4_settle_41 rfl rfl (Nat.zero_le _) (by exact ⟨rfl, u, rfl, fun s hs => by rw [hu1 s hs]; exact wk_64 h9 (.inr (by decide)) s hs, hu2⟩)
    · skip
      exact absurd (by decide) c_19
  · intro k hk ih u ch ⟨hu1, hu2, hch⟩
    refine x_il (q := 17) dX4_settle_15 rfl rfl ?_
    refine x_bi (q := 19) dX4_settle_17 rfl rfl ?_
    refine x_ic_ge (t := 41) (q := 22) dX4_settle_19 rfl rfl (fun c_19 => ?_) (fun c_19 => ?_)
    · skip
      exact absurd c_19 (by omega)
    · skip
      refine x_il (q := 24) dX4_settle_22 rfl rfl ?_
      refine x_if_eq (t := 41) (q := 27) dX4_settle_24 rfl rfl (fun c_24 => ?_) (fun c_24 => ?_)
      · skip
        have hch : ∀ s, s < 7 → wk e p (x0l l n) k s = WT e p l n s := by rcases hch with h | h; exact absurd h (by omega); exact h.2
        exact x_vret dX4_settle_41 rfl rfl (Nat.zero_le _) (by exact ⟨rfl, u, rfl, fun s hs => by rw [hu1 s hs]; exact hch s hs, hu2⟩)
      · skip
        refine x_al_n (q := 28) dX4_settle_27 rfl rfl ?_
        refine x_al_n (q := 29) dX4_settle_28 rfl rfl ?_
        refine x_il_n (q := 30) dX4_settle_29 rfl rfl ?_
        refine x_V (q := 33) (ci := 4) dX4_settle_30 rfl kX4_settle_41 (c_lessen hs hr (v := u) (e := e) (x := wk e p (x0l l n) k) hp0 hp1 (fun j hj => by rw [hu2 11 (by decide) (by decide)]; exact hE j hj) hu1 (wk_rng h9 k)) rfl rfl (hs _ _ rfl) (by decide) rfl (Nat.le_of_ble_eq_true rfl) ⟨rfl, rfl⟩ ⟨Nat.zero_le _, Nat.zero_le _⟩ (fun r1 h1 hp => ?_)
        obtain ⟨rfl, u2, rfl, h5, h6⟩ := hp
        refine x_is4 (q := 35) dX4_settle_33 rfl rfl ?_
        refine x_ii5 (q := 38) dX4_settle_35 rfl rfl ⟨by omega, by omega⟩ ?_
        refine x_goto (t := 15) dX4_settle_38 rfl ?_
        refine ih u2 _ ⟨h5, fun d h1 h2 => by rw [h6 d h1 h2]; exact hu2 d h1 h2, ?_⟩
        cases hA : anyN (fun s => !decide (lsn e p (wk e p (x0l l n) k) s = wk e p (x0l l n) k s)) 7 with
        | true => exact .inl rfl
        | false =>
          right
          refine ⟨rfl, fun s hs => ?_⟩
          have hfx : ∀ s, s < 7 → wk e p (x0l l n) (k + 1) s = wk e p (x0l l n) k s := fun s hs => by have := anyN_0 hA s hs; show lsn e p (wk e p (x0l l n) k) s = wk e p (x0l l n) k s; simpa using this
          rw [hfx s hs]
          exact wk_64 h9 (.inl hfx) s hs
  rw [hu1 s hs]
  show _ = (if s < n then l else 0)
  by_cases h2 : s < n
  · rw [if_pos (by omega), if_pos h2]
  · rw [if_neg (by omega), if_neg h2]
def share (x : Nat → Int) (n : Nat) (s : Int) : Int := if tw x n = 0 then 0 else 1000 * atx x s / tw x n
set_option maxHeartbeats 4000000 in
set_option maxRecDepth 100000 in
theorem c_shareOf (hs : Ext sh) (hr : Rok rf) {s : Int} (hx : RowV v x) (hx9 : ∀ s, 0 ≤ x s ∧ x s ≤ 9) : Cv g mX4_shareOf [aR 15, aI s] (sh, rf, v) (retI (share x 7 s) (sh, rf, v)) := by
  have ht := tw_ts hx9 7 (by decide)
  have hr7 := ts_rng hx9 7
  have ha := atx_rng hx9 s
  refine x_entry (ls := [some (aR 15), some (aI s), none]) rfl rfl (Nat.le_of_ble_eq_true rfl) ?_
  refine x_al_n (q := 1) dX4_shareOf_0 rfl rfl ?_
  refine x_VI (q := 4) (ci := 4) dX4_shareOf_1 rfl kX4_shareOf_32 (c_total hs hr hx) rfl rfl (hs _ _ rfl) (by decide) rfl (Nat.le_of_ble_eq_true rfl) ⟨rfl, rfl⟩ ⟨Nat.zero_le _, Nat.zero_le _⟩ ?_
  refine x_is2 (q := 5) dX4_shareOf_4 rfl rfl ?_
  refine x_il_n (q := 6) dX4_shareOf_5 rfl rfl ?_
  refine x_if_ne (t := 13) (q := 9) dX4_shareOf_6 rfl rfl (fun c_6 => ?_) (fun c_6 => ?_)
  · skip
    have hS : share x 7 s = 1000 * atx x s / tw x 7 := by unfold share; rw [if_neg c_6]
    refine x_si (q := 16) dX4_shareOf_13 rfl rfl ?_
    refine x_al_n (q := 17) dX4_shareOf_16 rfl rfl ?_
    refine x_il_n (q := 18) dX4_shareOf_17 rfl rfl ?_
    refine x_VI (q := 21) (ci := 4) dX4_shareOf_18 rfl kX4_shareOf_45 (c_at hs hr hx) rfl rfl (hs _ _ rfl) (by decide) rfl (Nat.le_of_ble_eq_true rfl) ⟨rfl, rfl⟩ ⟨Nat.zero_le _, Nat.zero_le _⟩ ?_
    refine x_mul (q := 22) dX4_shareOf_21 rfl ⟨by omega, by omega⟩ ?_
    refine x_il_n (q := 23) dX4_shareOf_22 rfl rfl ?_
    refine x_div (q := 24) dX4_shareOf_23 rfl (by omega) (by omega) ?_
    exact x_iret dX4_shareOf_24 rfl rfl (Nat.zero_le _) (retI_mk (by rw [hS]))
  · skip
    have hS : share x 7 s = 0 := by unfold share; rw [if_pos c_6]
    refine x_ic (q := 10) dX4_shareOf_9 rfl rfl ?_
    refine x_goto (t := 24) dX4_shareOf_10 rfl ?_
    exact x_iret dX4_shareOf_24 rfl rfl (Nat.zero_le _) (retI_mk (by rw [hS]))
end SUM

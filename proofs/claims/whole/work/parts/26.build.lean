/-! ===== Arcs: built; the greatest number that are alike ===== -/
def nd (c : Cfg) : Int := 2 ^ c.2.2.2.1.toNat
def Gd (c : Cfg) : Nat → Bool := gd (eT c) (nS c) (nd c)
def tT (c : Cfg) (s w : Nat) : Int := tg (aG (eT c) (Gd c) (nS c) s) (nd c) w
def Bg (c : Cfg) : Int := fi (Gd c) 0 (nS c)
def Wn (c : Cfg) : Int := wnC (tT c) (eT c) (Gd c) (nS c)
def ArcsOk (v : Nat → Nat → Int) (c : Cfg) : Prop := v 10 0 = (nS c : Int) ∧ v 10 1 = mk (Gd c) (nS c) ∧ v 10 2 = Bg c ∧ v 10 3 = Wn c ∧ RowE v (eT c) ∧ RowTT v (tT c)
theorem nd_rng {c : Cfg} (h : Vld c) : 2 ≤ nd c ∧ nd c ≤ 8 := by
  obtain ⟨-, h1, h2, -⟩ := h
  unfold nd
  rcases (show c.2.2.2.1 = 1 ∨ c.2.2.2.1 = 2 ∨ c.2.2.2.1 = 3 by omega) with h | h | h <;> rw [h] <;> decide
def wwT (T : Nat → Nat → Int) (s : Nat) (t : Int) : Int := fi (fun w => decide (T s w = t)) 0 16
def mostA (b : Nat → Bool) (x : Nat → Int) : Nat → Int
  | 0 => 0
  | k + 1 => if b k then (if mostA b x k < x k then x k else mostA b x k) else mostA b x k
section BLD
variable {g : GL} {sh : List (Nat × Nat)} {rf : Nat → Nat → Option Nat} {v : Nat → Nat → Int} {T : Nat → Nat → Int} {n : Nat}
theorem ww_T (hT : RowTT v T) {s : Nat} (hs : s < 7) (t : Int) : fi (fun w => decide (tagF v s w = t)) 0 16 = wwT T s t := fi_cong (fun w _ hw => by rw [tagF_e hT hs (by omega)])

set_option maxHeartbeats 4000000 in
set_option maxRecDepth 100000 in
theorem c_withWord (hs : Ext sh) (hr : Rok rf) {b t w : Int} (hb : 0 ≤ b) (hT : RowTT v T) (hst : v 10 0 = (n : Int)) (hn : n ≤ 7) : Cv g mX0_withWord [aR 10, aI b, aI t, aI w] (sh, rf, v) (retI (cnt (fun s => hasB b s && decide (wwT T s t = w)) n) (sh, rf, v)) := by
  refine x_entry (ls := [some (aR 10), some (aI b), some (aI t), some (aI w), none, none]) rfl rfl (Nat.le_of_ble_eq_true rfl) ?_
  refine x_ic (q := 1) dX0_withWord_0 rfl rfl ?_
  refine x_is4 (q := 3) dX0_withWord_1 rfl rfl ?_
  refine x_ic (q := 4) dX0_withWord_3 rfl rfl ?_
  refine x_is5 (q := 6) dX0_withWord_4 rfl rfl ?_
  refine x_up (S := fun i => Wv g mX0_withWord 0 0 6 [some (aR 10), some (aI b), some (aI t), some (aI w), some (aI (cnt (fun s => hasB b s && decide (wwT T s t = w)) i)), some (aI (i : Int))] [] (sh, rf, v) (retI (cnt (fun s => hasB b s && decide (wwT T s t = w)) n) (sh, rf, v))) n ?_ ?_ 0 (Nat.zero_le _)
  · skip
    refine x_il (q := 8) dX0_withWord_6 rfl rfl ?_
    refine x_al_n (q := 9) dX0_withWord_8 rfl rfl ?_
    refine x_getIe (q := 12) (z := (n : Int)) dX0_withWord_9 rfl fX0_36 (hs _ _ rfl) rfl (hst) ?_
    refine x_ic_ge (t := 44) (q := 15) dX0_withWord_12 rfl rfl (fun c_12 => ?_) (fun c_12 => ?_)
    · skip
      refine x_il (q := 46) dX0_withWord_44 rfl rfl ?_
      exact x_iret dX0_withWord_46 rfl rfl (Nat.zero_le _) (retI_mk (by rfl))
    · skip
      exact absurd (Int.le_refl _) c_12
  · intro i hi ih
    have hbb := cnt_rng (fun s => hasB b s && decide (wwT T s t = w)) i
    refine x_il (q := 8) dX0_withWord_6 rfl rfl ?_
    refine x_al_n (q := 9) dX0_withWord_8 rfl rfl ?_
    refine x_getIe (q := 12) (z := (n : Int)) dX0_withWord_9 rfl fX0_36 (hs _ _ rfl) rfl (hst) ?_
    refine x_ic_ge (t := 44) (q := 15) dX0_withWord_12 rfl rfl (fun c_12 => ?_) (fun c_12 => ?_)
    · skip
      exact absurd c_12 (by omega)
    · skip
      refine x_il_n (q := 16) dX0_withWord_15 rfl rfl ?_
      refine x_il (q := 18) dX0_withWord_16 rfl rfl ?_
      refine x_SI (q := 21) dX0_withWord_18 rfl kX0_withWord_69 (c_has hb) rfl rfl (Nat.le_of_ble_eq_true rfl) ⟨rfl, rfl⟩ ⟨Nat.zero_le _, Nat.zero_le _⟩ ?_
      refine x_if_eq (t := 38) (q := 24) dX0_withWord_21 rfl rfl (fun c_21 => ?_) (fun c_21 => ?_)
      · skip
        rw [cnt_f (by rw [b2i_0.mp c_21]; rfl)] at ih
        refine x_ii5 (q := 41) dX0_withWord_38 rfl rfl ⟨by omega, by omega⟩ ?_
        refine x_goto (t := 6) dX0_withWord_41 rfl ?_
        exact ih
      · skip
        refine x_al_n (q := 25) dX0_withWord_24 rfl rfl ?_
        refine x_il (q := 27) dX0_withWord_25 rfl rfl ?_
        refine x_il_n (q := 28) dX0_withWord_27 rfl rfl ?_
        refine x_VI (q := 31) (ci := 0) dX0_withWord_28 rfl kX0_withWord_79 (c_wordWith hs hr) rfl rfl (hs _ _ rfl) (by decide) rfl (Nat.le_of_ble_eq_true rfl) ⟨rfl, rfl⟩ ⟨Nat.zero_le _, Nat.zero_le _⟩ ?_
        rw [ww_T hT (by omega)]
        refine x_il_n (q := 32) dX0_withWord_31 rfl rfl ?_
        refine x_ic_ne (t := 38) (q := 35) dX0_withWord_32 rfl rfl (fun c_32 => ?_) (fun c_32 => ?_)
        · skip
          rw [cnt_f (by simp [c_32])] at ih
          refine x_ii5 (q := 41) dX0_withWord_38 rfl rfl ⟨by omega, by omega⟩ ?_
          refine x_goto (t := 6) dX0_withWord_41 rfl ?_
          exact ih
        · skip
          rw [cnt_t (by rw [b2i_n0.mp c_21]; simp [c_32])] at ih
          refine x_ii4 (q := 38) dX0_withWord_35 rfl rfl ⟨by omega, by omega⟩ ?_
          refine x_ii5 (q := 41) dX0_withWord_38 rfl rfl ⟨by omega, by omega⟩ ?_
          refine x_goto (t := 6) dX0_withWord_41 rfl ?_
          exact ih
theorem mostA_rng {b : Nat → Bool} {x : Nat → Int} {m : Int} (hx : ∀ s, 0 ≤ x s ∧ x s ≤ m) (hm : 0 ≤ m) : ∀ k, 0 ≤ mostA b x k ∧ mostA b x k ≤ m
  | 0 => by simp [mostA]; exact hm
  | k + 1 => by
    have h1 := mostA_rng (b := b) hx hm k
    have h2 := hx k
    unfold mostA
    split
    · split <;> omega
    · exact h1
set_option maxHeartbeats 4000000 in
set_option maxRecDepth 100000 in
theorem c_mostAlike (hs : Ext sh) (hr : Rok rf) {b t : Int} (hb : 0 ≤ b) (hT : RowTT v T) (hst : v 10 0 = (n : Int)) (hn : n ≤ 7) : Cv g mX0_mostAlike [aR 10, aI b, aI t] (sh, rf, v) (retI (mostA (fun s => hasB b s) (fun s => cnt (fun s2 => hasB b s2 && decide (wwT T s2 t = wwT T s t)) n) n) (sh, rf, v)) := by
  refine x_entry (ls := [some (aR 10), some (aI b), some (aI t), none, none]) rfl rfl (Nat.le_of_ble_eq_true rfl) ?_
  refine x_ic (q := 1) dX0_mostAlike_0 rfl rfl ?_
  refine x_is3 (q := 2) dX0_mostAlike_1 rfl rfl ?_
  refine x_ic (q := 3) dX0_mostAlike_2 rfl rfl ?_
  refine x_is4 (q := 5) dX0_mostAlike_3 rfl rfl ?_
  refine x_up (S := fun i => Wv g mX0_mostAlike 0 0 5 [some (aR 10), some (aI b), some (aI t), some (aI (mostA (fun s => hasB b s) (fun s => cnt (fun s2 => hasB b s2 && decide (wwT T s2 t = wwT T s t)) n) i)), some (aI (i : Int))] [] (sh, rf, v) (retI (mostA (fun s => hasB b s) (fun s => cnt (fun s2 => hasB b s2 && decide (wwT T s2 t = wwT T s t)) n) n) (sh, rf, v))) n ?_ ?_ 0 (Nat.zero_le _)
  · skip
    refine x_il (q := 7) dX0_mostAlike_5 rfl rfl ?_
    refine x_al_n (q := 8) dX0_mostAlike_7 rfl rfl ?_
    refine x_getIe (q := 11) (z := (n : Int)) dX0_mostAlike_8 rfl fX0_36 (hs _ _ rfl) rfl (hst) ?_
    refine x_ic_ge (t := 47) (q := 14) dX0_mostAlike_11 rfl rfl (fun c_11 => ?_) (fun c_11 => ?_)
    · skip
      refine x_il_n (q := 48) dX0_mostAlike_47 rfl rfl ?_
      exact x_iret dX0_mostAlike_48 rfl rfl (Nat.zero_le _) (retI_mk (by rfl))
    · skip
      exact absurd (Int.le_refl _) c_11
  · intro i hi ih
    refine x_il (q := 7) dX0_mostAlike_5 rfl rfl ?_
    refine x_al_n (q := 8) dX0_mostAlike_7 rfl rfl ?_
    refine x_getIe (q := 11) (z := (n : Int)) dX0_mostAlike_8 rfl fX0_36 (hs _ _ rfl) rfl (hst) ?_
    refine x_ic_ge (t := 47) (q := 14) dX0_mostAlike_11 rfl rfl (fun c_11 => ?_) (fun c_11 => ?_)
    · skip
      exact absurd c_11 (by omega)
    · skip
      refine x_il_n (q := 15) dX0_mostAlike_14 rfl rfl ?_
      refine x_il (q := 17) dX0_mostAlike_15 rfl rfl ?_
      refine x_SI (q := 20) dX0_mostAlike_17 rfl kX0_mostAlike_69 (c_has hb) rfl rfl (Nat.le_of_ble_eq_true rfl) ⟨rfl, rfl⟩ ⟨Nat.zero_le _, Nat.zero_le _⟩ ?_
      refine x_if_eq (t := 41) (q := 23) dX0_mostAlike_20 rfl rfl (fun c_20 => ?_) (fun c_20 => ?_)
      · skip
        have hF : mostA (fun s => hasB b s) (fun s => cnt (fun s2 => hasB b s2 && decide (wwT T s2 t = wwT T s t)) n) (i + 1) = mostA (fun s => hasB b s) (fun s => cnt (fun s2 => hasB b s2 && decide (wwT T s2 t = wwT T s t)) n) i := by show (if hasB b i = true then _ else _) = _; rw [b2i_0.mp c_20]; rfl
        rw [hF] at ih
        refine x_ii4 (q := 44) dX0_mostAlike_41 rfl rfl ⟨by omega, by omega⟩ ?_
        refine x_goto (t := 5) dX0_mostAlike_44 rfl ?_
        exact ih
      · skip
        have hF : mostA (fun s => hasB b s) (fun s => cnt (fun s2 => hasB b s2 && decide (wwT T s2 t = wwT T s t)) n) (i + 1) = if mostA (fun s => hasB b s) (fun s => cnt (fun s2 => hasB b s2 && decide (wwT T s2 t = wwT T s t)) n) i < (fun s => cnt (fun s2 => hasB b s2 && decide (wwT T s2 t = wwT T s t)) n) i then (fun s => cnt (fun s2 => hasB b s2 && decide (wwT T s2 t = wwT T s t)) n) i else mostA (fun s => hasB b s) (fun s => cnt (fun s2 => hasB b s2 && decide (wwT T s2 t = wwT T s t)) n) i := by show (if hasB b i = true then _ else _) = _; rw [b2i_n0.mp c_20]; rfl
        rw [hF] at ih
        refine x_il_n (q := 24) dX0_mostAlike_23 rfl rfl ?_
        refine x_al_n (q := 25) dX0_mostAlike_24 rfl rfl ?_
        refine x_il_n (q := 26) dX0_mostAlike_25 rfl rfl ?_
        refine x_il_n (q := 27) dX0_mostAlike_26 rfl rfl ?_
        refine x_al_n (q := 28) dX0_mostAlike_27 rfl rfl ?_
        refine x_il (q := 30) dX0_mostAlike_28 rfl rfl ?_
        refine x_il_n (q := 31) dX0_mostAlike_30 rfl rfl ?_
        refine x_VI (q := 34) (ci := 0) dX0_mostAlike_31 rfl kX0_mostAlike_79 (c_wordWith hs hr) rfl rfl (hs _ _ rfl) (by decide) rfl (Nat.le_of_ble_eq_true rfl) ⟨rfl, rfl⟩ ⟨Nat.zero_le _, Nat.zero_le _⟩ ?_
        rw [ww_T hT (by omega)]
        refine x_VI (q := 37) (ci := 0) dX0_mostAlike_34 rfl kX0_mostAlike_82 (c_withWord hs hr hb hT hst hn) rfl rfl (hs _ _ rfl) (by decide) rfl (Nat.le_of_ble_eq_true rfl) ⟨rfl, rfl⟩ ⟨Nat.zero_le _, Nat.zero_le _⟩ ?_
        refine x_max (q := 40) dX0_mostAlike_37 rfl q633 q419 q76 q420 (Nat.le_of_ble_eq_true rfl) (Nat.le_of_ble_eq_true rfl) (Nat.zero_le _) (Nat.zero_le _) (Nat.le_of_ble_eq_true rfl) ?_
        refine x_is3 (q := 41) dX0_mostAlike_40 rfl rfl ?_
        refine x_ii4 (q := 44) dX0_mostAlike_41 rfl rfl ⟨by omega, by omega⟩ ?_
        refine x_goto (t := 5) dX0_mostAlike_44 rfl ?_
        exact ih
set_option maxHeartbeats 4000000 in
set_option maxRecDepth 100000 in
theorem c_build (hs : Ext sh) (hr : Rok rf) {c : Nat} (hb : sh[c]? = some (4, 5)) (hcr : c < 10 ∨ 15 ≤ c) (hv : Vld (banOf v c)) : Cv g mX0_build [aR 10, aR c] (sh, rf, v) (putL (fun u => ArcsOk u (banOf v c) ∧ ∀ d, d < 10 ∨ 15 ≤ d → u d = v d) sh rf) := by
  have hv0 := hv
  obtain ⟨hvb, hp1, hp2, hq1, hq2⟩ := hv
  dsimp only [banOf] at hvb hp1 hp2 hq1 hq2
  have hnst := nst_rng hvb
  have hS := nS_rng hv0
  have hnd := nd_rng hv0
  have hbc : ∀ u : Nat → Nat → Int, u c = v c → banOf u c = banOf v c := fun u h => banOf_cong h
  refine x_entry (ls := [some (aR 10), some (aR c)]) rfl rfl (Nat.le_of_ble_eq_true rfl) ?_
  refine x_al_n (q := 1) dX0_build_0 rfl rfl ?_
  refine x_al_n (q := 2) dX0_build_1 rfl rfl ?_
  refine x_VI (q := 5) (ci := 1) dX0_build_2 rfl kX0_build_24 (c_stateCount hb hvb) rfl rfl (by first | exact hs _ _ rfl | exact hb) (by decide) rfl (Nat.le_of_ble_eq_true rfl) ⟨rfl, rfl⟩ ⟨Nat.zero_le _, Nat.zero_le _⟩ ?_
  refine x_bi (q := 7) dX0_build_5 rfl rfl ?_
  refine x_min (q := 10) dX0_build_7 rfl q246 q247 q76 q248 (Nat.le_of_ble_eq_true rfl) (Nat.le_of_ble_eq_true rfl) (Nat.zero_le _) (Nat.zero_le _) (Nat.le_of_ble_eq_true rfl) ?_
  rw [if_neg (by omega), show nst (v c 0) (v c 1) (v c 2) = (nS (banOf v c) : Int) from hS.2.2.symm]
  refine x_putI (q := 13) dX0_build_10 rfl fX0_36 (by first | exact hs _ _ rfl | exact hb) (.inl rfl) rfl ?_
  refine x_al_n (q := 14) dX0_build_13 rfl rfl ?_
  refine x_al_n (q := 15) dX0_build_14 rfl rfl ?_
  refine x_V (q := 18) (ci := 0) dX0_build_15 rfl kX0_build_40 (c_setEnds hs hr (v := up v 10 0 (nS (banOf v c) : Int)) hb (by omega) (by rw [hbc _ (up_n _ _ _ (by omega))]; exact hv0) (by rw [up_at, if_pos rfl, up_n _ _ _ (by omega)]; exact hS.2.2)) rfl rfl (by first | exact hs _ _ rfl | exact hb) (by decide) rfl (Nat.le_of_ble_eq_true rfl) ⟨rfl, rfl⟩ ⟨Nat.zero_le _, Nat.zero_le _⟩ (fun r1 h1 hp => ?_)
  obtain ⟨rfl, u1, rfl, e1, e2⟩ := hp
  rw [hbc _ (up_n _ _ _ (by omega))] at e1
  have eC : u1 c = v c := by rw [e2 c (by omega), up_n _ _ _ (by omega)]
  have e0 : u1 10 0 = (nS (banOf v c) : Int) := by rw [e2 10 (by decide), up_at, if_pos rfl]
  refine x_al_n (q := 19) dX0_build_18 rfl rfl ?_
  refine x_al_n (q := 20) dX0_build_19 rfl rfl ?_
  refine x_VI (q := 23) (ci := 1) dX0_build_20 rfl kX0_build_44 (c_tagCount (v := u1) hb (by rw [eC]; omega) (by rw [eC]; omega)) rfl rfl (by first | exact hs _ _ rfl | exact hb) (by decide) rfl (Nat.le_of_ble_eq_true rfl) ⟨rfl, rfl⟩ ⟨Nat.zero_le _, Nat.zero_le _⟩ ?_
  rw [show (2 : Int) ^ (u1 c 3).toNat = nd (banOf v c) by rw [eC]; rfl]
  refine x_V (q := 26) (ci := 0) dX0_build_23 rfl kX0_build_47 (c_setGood hs hr (v := u1) (e := eT (banOf v c)) (n := nS (banOf v c)) e1 e0 hS.2.1) rfl rfl (by first | exact hs _ _ rfl | exact hb) (by decide) rfl (Nat.le_of_ble_eq_true rfl) ⟨rfl, rfl⟩ ⟨Nat.zero_le _, Nat.zero_le _⟩ (fun r1 h1 hp => ?_)
  obtain ⟨rfl, rfl⟩ := hp
  rw [show mk (gd (eT (banOf v c)) (nS (banOf v c)) (nd (banOf v c))) (nS (banOf v c)) = mk (Gd (banOf v c)) (nS (banOf v c)) from rfl]
  generalize hu2 : up u1 10 1 (mk (Gd (banOf v c)) (nS (banOf v c))) = u2
  have f1 : u2 10 1 = mk (Gd (banOf v c)) (nS (banOf v c)) := by rw [← hu2, up_at, if_pos rfl]
  have f2 : u2 10 0 = (nS (banOf v c) : Int) := by rw [← hu2, up_at, if_neg (by decide)]; exact e0
  have f3 : ∀ d, d ≠ 10 → u2 d = u1 d := fun d hd => by rw [← hu2, up_n _ _ _ hd]
  have f4 : RowE u2 (eT (banOf v c)) := fun j hj => by rw [f3 11 (by decide)]; exact e1 j hj
  have f5 : u2 c = v c := by rw [f3 c (by omega)]; exact eC
  refine x_al_n (q := 27) dX0_build_26 rfl rfl ?_
  refine x_al_n (q := 28) dX0_build_27 rfl rfl ?_
  refine x_VI (q := 31) (ci := 1) dX0_build_28 rfl kX0_build_44 (c_tagCount (v := u2) hb (by rw [f5]; omega) (by rw [f5]; omega)) rfl rfl (by first | exact hs _ _ rfl | exact hb) (by decide) rfl (Nat.le_of_ble_eq_true rfl) ⟨rfl, rfl⟩ ⟨Nat.zero_le _, Nat.zero_le _⟩ ?_
  rw [show (2 : Int) ^ (u2 c 3).toNat = nd (banOf v c) by rw [f5]; rfl]
  refine x_V (q := 34) (ci := 0) dX0_build_31 rfl kX0_build_51 (c_setTags hs hr (v := u2) (e := eT (banOf v c)) (f := Gd (banOf v c)) (n := nS (banOf v c)) (by omega) f4 f1 hS.2.1) rfl rfl (by first | exact hs _ _ rfl | exact hb) (by decide) rfl (Nat.le_of_ble_eq_true rfl) ⟨rfl, rfl⟩ ⟨Nat.zero_le _, Nat.zero_le _⟩ (fun r1 h1 hp => ?_)
  obtain ⟨rfl, u3, rfl, g1, g2⟩ := hp
  have g3 : RowTT u3 (tT (banOf v c)) := g1
  have g4 : RowE u3 (eT (banOf v c)) := fun j hj => by rw [g2 11 (by decide)]; exact f4 j hj
  have g5 : u3 10 = u2 10 := g2 10 (by decide)
  refine x_al_n (q := 35) dX0_build_34 rfl rfl ?_
  refine x_al_n (q := 36) dX0_build_35 rfl rfl ?_
  refine x_VI (q := 39) (ci := 0) dX0_build_36 rfl kX0_build_54 (c_lowestGood hs hr (v := u3) (f := Gd (banOf v c)) (n := nS (banOf v c)) (by rw [g5]; exact f2) (by rw [g5]; exact f1) hS.2.1) rfl rfl (by first | exact hs _ _ rfl | exact hb) (by decide) rfl (Nat.le_of_ble_eq_true rfl) ⟨rfl, rfl⟩ ⟨Nat.zero_le _, Nat.zero_le _⟩ ?_
  refine x_putI (q := 42) dX0_build_39 rfl fX0_57 (hs _ _ rfl) (.inl rfl) rfl ?_
  generalize hu4 : up u3 10 2 (fi (Gd (banOf v c)) 0 (nS (banOf v c))) = u4
  have k0 : ∀ d, d ≠ 10 → u4 d = u3 d := fun d hd => by rw [← hu4, up_n _ _ _ hd]
  have k1 : u4 10 0 = (nS (banOf v c) : Int) := by rw [← hu4, up_at, if_neg (by decide), g5]; exact f2
  have k2 : u4 10 1 = mk (Gd (banOf v c)) (nS (banOf v c)) := by rw [← hu4, up_at, if_neg (by decide), g5]; exact f1
  have k6 : u4 10 2 = Bg (banOf v c) := by rw [← hu4, up_at, if_pos rfl]; rfl
  have k3 : RowTT u4 (tT (banOf v c)) := fun j hj => by rw [k0 12 (by decide)]; exact g3 j hj
  have k4 : RowE u4 (eT (banOf v c)) := fun j hj => by rw [k0 11 (by decide)]; exact g4 j hj
  refine x_al_n (q := 43) dX0_build_42 rfl rfl ?_
  refine x_al_n (q := 44) dX0_build_43 rfl rfl ?_
  refine x_V (q := 47) (ci := 0) dX0_build_44 rfl kX0_build_60 (c_narrowestWindow hs hr (v := u4) (E := eT (banOf v c)) (T := tT (banOf v c)) (f := Gd (banOf v c)) (n := nS (banOf v c)) k4 k3 k1 k2 hS.2.1) rfl rfl (by first | exact hs _ _ rfl | exact hb) (by decide) rfl (Nat.le_of_ble_eq_true rfl) ⟨rfl, rfl⟩ ⟨Nat.zero_le _, Nat.zero_le _⟩ (fun r1 h1 hp => ?_)
  obtain ⟨rfl, u5, rfl, k5⟩ := hp
  refine x_putI (q := 50) dX0_build_47 rfl fX0_63 (by first | exact hs _ _ rfl | exact hb) (.inl rfl) rfl ?_
  refine x_vret dX0_build_50 rfl rfl (Nat.zero_le _) ⟨rfl, _, rfl, ⟨?_, ?_, ?_, ?_, ?_, ?_⟩, fun d hd => ?_⟩
  · rw [up_at, if_neg (by decide), k5 10 (by decide) (by decide)]; exact k1
  · rw [up_at, if_neg (by decide), k5 10 (by decide) (by decide)]; exact k2
  · rw [up_at, if_neg (by decide), k5 10 (by decide) (by decide)]; exact k6
  · rw [up_at, if_pos rfl]; rfl
  · intro j hj; rw [up_n _ _ _ (by decide), k5 11 (by decide) (by decide)]; exact k4 j hj
  · intro j hj; rw [up_n _ _ _ (by decide), k5 12 (by decide) (by decide)]; exact k3 j hj
  · rw [up_n _ _ _ (by omega), k5 d (by omega) (by omega), k0 d (by omega), g2 d (by omega), f3 d (by omega), e2 d (by omega), up_n _ _ _ (by omega)]
end BLD

/-! ===== the Model: states, arcs asked; sends, flips ===== -/
def FQ (v : Nat → Nat → Int) (c : Cfg) : Prop := RowL v c ∧ RowG v c ∧ v 70 11 = mk (Gd c) (nS c) ∧ v 70 12 = Bg c
theorem FND.fq {c : Cfg} {v u : Nat → Nat → Int} (h : FND c v u) : FQ u c := ⟨h.1, h.2.1, h.2.2.1, h.2.2.2.1⟩
theorem FQ.cong {u v : Nat → Nat → Int} {c : Cfg} (h : FQ v c) (h1 : u 77 = v 77) (h2 : u 78 = v 78) (h3 : u 70 11 = v 70 11) (h4 : u 70 12 = v 70 12) : FQ u c := ⟨fun s w a b => by rw [h1]; exact h.1 s w a b, fun s w a b => by rw [h2]; exact h.2.1 s w a b, by rw [h3]; exact h.2.2.1, by rw [h4]; exact h.2.2.2⟩
theorem tT_inj {c : Cfg} (hv : Vld c) {s w w2 : Nat} {t : Int} (ht : 0 ≤ t) (h1 : tT c s w = t) (h2 : tT c s w2 = t) : w = w2 := tg_inj (by have := nd_rng hv; omega) ht h1 h2
theorem CM_up {v : Nat → Nat → Int} {c : Cfg} {k : Nat} {z : Int} (h : CM v c) (hk : 5 ≤ k) : CM (up v 71 k z) c := by
  obtain ⟨h0, h1, h2, h3, h4⟩ := h
  refine ⟨?_, ?_, ?_, ?_, ?_⟩ <;> rw [up_at, if_neg (by omega)] <;> assumption
theorem MH_send {y u : Nat → Nat → Int} {H : Hd} {w t e : Int} (h : MH y 71 0 H) (hn : H.2.1 < 24) (hu : ∀ k, u 71 k = if k = 6 then e else if k = 5 then (H.2.1 : Int) + 1 else if k = 55 + H.2.1 then t else if k = 31 + H.2.1 then w else if k = 7 + H.2.1 then w else y 71 k) : MH u 71 0 (H.1, H.2.1 + 1, upx H.2.2.1 H.2.1 w, upx H.2.2.2.1 H.2.1 w, upx H.2.2.2.2.1 H.2.1 t, e) := by
  obtain ⟨⟨h0, h1, h2, h3, h4⟩, h5, h6, h7⟩ := h
  have lo : ∀ k, k < 5 → u 71 k = y 71 k := fun k hk => by rw [hu, if_neg (by omega), if_neg (by omega), if_neg (by omega), if_neg (by omega), if_neg (by omega)]
  refine ⟨⟨by rw [lo 0 (by decide)]; exact h0, by rw [lo (0 + 1) (by decide)]; exact h1, by rw [lo (0 + 2) (by decide)]; exact h2, by rw [lo (0 + 3) (by decide)]; exact h3, by rw [lo (0 + 4) (by decide)]; exact h4⟩, by rw [hu, if_neg (by decide), if_pos (by decide)]; show _ = ((H.2.1 + 1 : Nat) : Int); omega, by rw [hu, if_pos (by decide)], fun i hi => ?_⟩
  have hi2 : i < H.2.1 + 1 := hi
  show u 71 (0 + 7 + i) = (if i = H.2.1 then w else H.2.2.2.1 i) ∧ u 71 (0 + 31 + i) = (if i = H.2.1 then w else H.2.2.1 i) ∧ u 71 (0 + 55 + i) = (if i = H.2.1 then t else H.2.2.2.2.1 i)
  by_cases he : i = H.2.1
  · rw [if_pos he, if_pos he, if_pos he, hu, hu, hu]
    refine ⟨?_, ?_, ?_⟩
    · rw [if_neg (by omega), if_neg (by omega), if_neg (by omega), if_neg (by omega), if_pos (by omega)]
    · rw [if_neg (by omega), if_neg (by omega), if_neg (by omega), if_pos (by omega)]
    · rw [if_neg (by omega), if_neg (by omega), if_pos (by omega)]
  · have h8 := h7 i (by omega)
    rw [if_neg he, if_neg he, if_neg he, hu, hu, hu]
    refine ⟨?_, ?_, ?_⟩
    · rw [if_neg (by omega), if_neg (by omega), if_neg (by omega), if_neg (by omega), if_neg (by omega)]; exact h8.1
    · rw [if_neg (by omega), if_neg (by omega), if_neg (by omega), if_neg (by omega), if_neg (by omega)]; exact h8.2.1
    · rw [if_neg (by omega), if_neg (by omega), if_neg (by omega), if_neg (by omega), if_neg (by omega)]; exact h8.2.2
theorem MH_flip {y u : Nat → Nat → Int} {H : Hd} {j : Nat} {z : Int} (h : MH y 71 0 H) (hn : H.2.1 ≤ 24) (hj : j < H.2.1) (hu : ∀ k, u 71 k = if k = 31 + j then z else y 71 k) : MH u 71 0 (H.1, H.2.1, upx H.2.2.1 j z, H.2.2.2) := by
  obtain ⟨⟨h0, h1, h2, h3, h4⟩, h5, h6, h7⟩ := h
  have lo : ∀ k, k < 31 ∨ 55 ≤ k → u 71 k = y 71 k := fun k hk => by rw [hu, if_neg (by omega)]
  refine ⟨⟨by rw [lo 0 (by decide)]; exact h0, by rw [lo (0 + 1) (by decide)]; exact h1, by rw [lo (0 + 2) (by decide)]; exact h2, by rw [lo (0 + 3) (by decide)]; exact h3, by rw [lo (0 + 4) (by decide)]; exact h4⟩, by rw [lo (0 + 5) (by decide)]; exact h5, by rw [lo (0 + 6) (by decide)]; exact h6, fun i hi => ?_⟩
  have hi2 : i < H.2.1 := hi
  have h8 := h7 i hi2
  refine ⟨by rw [lo _ (by omega)]; exact h8.1, ?_, by rw [lo _ (by omega)]; exact h8.2.2⟩
  show u 71 (0 + 31 + i) = (if i = j then z else H.2.2.1 i)
  rw [hu]
  by_cases he : i = j
  · rw [if_pos he, if_pos (by omega)]
  · rw [if_neg he, if_neg (by omega)]; exact h8.2.1
theorem RM_cur {S : St} {ps : List Hd} {H : Hd} {u y : Nat → Nat → Int} (h : RM (S.1, ps, S.2.2) y) (h1 : ∀ d, d ≠ 71 → u d = y d) (hH : MH u 71 0 H) : RM (H, ps, S.2.2) u := by
  obtain ⟨a1, a2, a3, ⟨b1, b2, b3, b4⟩, ⟨c1, c2⟩, ⟨d1, d2⟩⟩ := h
  exact ⟨hH, by rw [h1 70 (by decide)]; exact a2, fun i h hi => (a3 i h hi).cong (h1 72 (by decide)), ⟨by rw [h1 74 (by decide)]; exact b1, by rw [h1 74 (by decide)]; exact b2, fun h hh => (b3 h hh).cong (h1 73 (by decide)), fun h hh => (b4 h hh).cong (h1 73 (by decide))⟩, ⟨by rw [h1 70 (by decide)]; exact c1, fun i hi => by rw [h1 75 (by decide)]; exact c2 i hi⟩, ⟨by rw [h1 70 (by decide)]; exact d1, fun i hi => by rw [h1 76 (by decide)]; exact d2 i hi⟩⟩
section MOB
variable {g : GL} {sh : List (Nat × Nat)} {rf : Nat → Nat → Option Nat} {v : Nat → Nat → Int} {S : St} {c : Cfg}

set_option maxHeartbeats 4000000 in
set_option maxRecDepth 100000 in
theorem m_wordFor (hs : ExtM sh) (hr : RokM rf) (hm : CM v c) (hv : Vld c) {s : Nat} {t : Int} (hG : RowG v c) (hsn : s < nS c) (ht : 0 ≤ t) : Cv g mX7_wordFor [aR 70, aI (s : Int), aI t] (sh, rf, v) (retI (wwT (tT c) s t) (sh, rf, v)) := by
  have hS := nS_rng hv
  have hd := nd_rng hv
  have hq := pw16 hv.2.2.2.1 hv.2.2.2.2
  obtain ⟨hvB, hp1, hp2, hq1, hq2⟩ := id hv
  obtain ⟨m, hmq⟩ : ∃ m : Nat, (m : Int) = 2 ^ c.2.2.2.2.toNat := ⟨2 ^ c.2.2.2.2.toNat, by simp⟩
  refine x_entry (ls := [some (aR 70), some (aI (s : Int)), some (aI t), none, none]) rfl rfl (Nat.le_of_ble_eq_true rfl) ?_
  refine x_bi (q := 2) dX7_wordFor_0 rfl rfl ?_
  refine x_is3 (q := 3) dX7_wordFor_2 rfl rfl ?_
  refine x_ic (q := 4) dX7_wordFor_3 rfl rfl ?_
  refine x_is4 (q := 6) dX7_wordFor_4 rfl rfl ?_
  refine x_up (S := fun w => ∀ x : Int, ((∃ w0 : Nat, w0 < w ∧ tT c s w0 = t ∧ x = (w0 : Int)) ∨ ((∀ w0 : Nat, w0 < w → ¬ tT c s w0 = t) ∧ x = -9)) → Wv g mX7_wordFor 0 0 6 [some (aR 70), some (aI (s : Int)), some (aI t), some (aI x), some (aI (w : Int))] [] (sh, rf, v) (retI (wwT (tT c) s t) (sh, rf, v))) m ?_ ?_ 0 (Nat.zero_le _) (-9) (.inr ⟨fun w0 h => by omega, rfl⟩)
  · intro x hx
    have hx : wwT (tT c) s t = x := by
      unfold wwT
      rcases hx with ⟨w0, h1, h2, h3⟩ | ⟨h1, h2⟩
      · obtain ⟨m2, g1, g2, g3, g4⟩ := fi_ex (f := fun w => decide (tT c s w = t)) 16 0 w0 (by omega) (by omega) (decide_eq_true h2)
        rw [g4, h3, tT_inj hv ht (of_decide_eq_true g3) h2]
      · rcases fi_rng (f := fun w => decide (tT c s w = t)) 16 0 with h | ⟨j, j1, j2, j3, j4⟩
        · rw [h, h2]
        · exfalso
          have hj := of_decide_eq_true j3
          by_cases hjm : j < m
          · exact h1 j hjm hj
          · rw [tT_o2 hv (by omega)] at hj; omega
    refine x_il (q := 8) dX7_wordFor_6 rfl rfl ?_
    refine x_al_n (q := 9) dX7_wordFor_8 rfl rfl ?_
    refine x_VI (q := 12) (ci := 7) dX7_wordFor_9 rfl kX7_wordFor_78 (m_words hs hr hm hv) rfl rfl (hs _ _ rfl) (by decide) rfl (Nat.le_of_ble_eq_true rfl) ⟨rfl, rfl⟩ ⟨Nat.zero_le _, Nat.zero_le _⟩ ?_
    rw [← hmq]
    refine x_ic_ge (t := 39) (q := 15) dX7_wordFor_12 rfl rfl (fun c_12 => ?_) (fun c_12 => ?_)
    · skip
      refine x_il_n (q := 40) dX7_wordFor_39 rfl rfl ?_
      exact x_iret dX7_wordFor_40 rfl rfl (Nat.zero_le _) (retI_mk (by exact hx.symm))
    · skip
      exact absurd (Int.le_refl _) c_12
  · intro w hwm ih x hx
    refine x_il (q := 8) dX7_wordFor_6 rfl rfl ?_
    refine x_al_n (q := 9) dX7_wordFor_8 rfl rfl ?_
    refine x_VI (q := 12) (ci := 7) dX7_wordFor_9 rfl kX7_wordFor_78 (m_words hs hr hm hv) rfl rfl (hs _ _ rfl) (by decide) rfl (Nat.le_of_ble_eq_true rfl) ⟨rfl, rfl⟩ ⟨Nat.zero_le _, Nat.zero_le _⟩ ?_
    rw [← hmq]
    refine x_ic_ge (t := 39) (q := 15) dX7_wordFor_12 rfl rfl (fun c_12 => ?_) (fun c_12 => ?_)
    · skip
      exact absurd c_12 (by omega)
    · skip
      refine x_al_n (q := 16) dX7_wordFor_15 rfl rfl ?_
      refine x_il_n (q := 17) dX7_wordFor_16 rfl rfl ?_
      refine x_il (q := 19) dX7_wordFor_17 rfl rfl ?_
      refine x_VI (q := 22) (ci := 7) dX7_wordFor_19 rfl kX7_wordFor_149 (m_tag hs hr hm hv hG (by omega) hsn) rfl rfl (hs _ _ rfl) (by decide) rfl (Nat.le_of_ble_eq_true rfl) ⟨rfl, rfl⟩ ⟨Nat.zero_le _, Nat.zero_le _⟩ ?_
      rw [Ex_n (by omega) (by omega)]
      refine x_il_n (q := 23) dX7_wordFor_22 rfl rfl ?_
      refine x_ic_ne (t := 31) (q := 26) dX7_wordFor_23 rfl rfl (fun c_23 => ?_) (fun c_23 => ?_)
      · skip
        have ih := ih x (by
          rcases hx with ⟨w0, h1, h2, h3⟩ | ⟨h1, h2⟩
          · exact .inl ⟨w0, by omega, h2, h3⟩
          · refine .inr ⟨fun w0 h => ?_, h2⟩
            by_cases he : w0 = w
            · rw [he]; exact c_23
            · exact h1 w0 (by omega))
        refine x_il_n (q := 32) dX7_wordFor_31 rfl rfl ?_
        refine x_is3 (q := 33) dX7_wordFor_32 rfl rfl ?_
        refine x_ii4 (q := 36) dX7_wordFor_33 rfl rfl ⟨by omega, by omega⟩ ?_
        refine x_goto (t := 6) dX7_wordFor_36 rfl ?_
        exact ih
      · skip
        have ih := ih (w : Int) (.inl ⟨w, by omega, c_23, rfl⟩)
        refine x_il (q := 28) dX7_wordFor_26 rfl rfl ?_
        refine x_goto (t := 32) dX7_wordFor_28 rfl ?_
        refine x_is3 (q := 33) dX7_wordFor_32 rfl rfl ?_
        refine x_ii4 (q := 36) dX7_wordFor_33 rfl rfl ⟨by omega, by omega⟩ ?_
        refine x_goto (t := 6) dX7_wordFor_36 rfl ?_
        exact ih
set_option maxHeartbeats 4000000 in
set_option maxRecDepth 100000 in
theorem m_isState (hs : ExtM sh) (hr : RokM rf) (hm : CM v c) (hv : Vld c) {s : Int} : Cv g mX7_isState [aR 70, aI s] (sh, rf, v) (retI (b2i (decide (0 ≤ s ∧ s ≤ (nS c : Int) - 1))) (sh, rf, v)) := by
  have hS := nS_rng hv
  have hd := nd_rng hv
  have hq := pw16 hv.2.2.2.1 hv.2.2.2.2
  obtain ⟨hvB, hp1, hp2, hq1, hq2⟩ := id hv
  refine x_entry (ls := [some (aR 70), some (aI s)]) rfl rfl (Nat.le_of_ble_eq_true rfl) ?_
  refine x_il_n (q := 1) dX7_isState_0 rfl rfl ?_
  refine x_i2l (q := 2) dX7_isState_1 rfl ?_
  refine x_lc (q := 3) (z := 0) dX7_isState_2 rfl rfl ?_
  refine x_al_n (q := 4) dX7_isState_3 rfl rfl ?_
  refine x_VI (q := 7) (ci := 7) dX7_isState_4 rfl kX7_isState_82 (m_states hs hr hm hv) rfl rfl (hs _ _ rfl) (by decide) rfl (Nat.le_of_ble_eq_true rfl) ⟨rfl, rfl⟩ ⟨Nat.zero_le _, Nat.zero_le _⟩ ?_
  refine x_ic (q := 8) dX7_isState_7 rfl rfl ?_
  refine x_sub (q := 9) dX7_isState_8 rfl ⟨by omega, by omega⟩ ?_
  refine x_i2l (q := 10) dX7_isState_9 rfl ?_
  refine x_SI (q := 13) dX7_isState_10 rfl kX7_isState_70 (m_in) rfl rfl (Nat.le_of_ble_eq_true rfl) ⟨rfl, rfl⟩ ⟨Nat.zero_le _, Nat.zero_le _⟩ ?_
  exact x_zret dX7_isState_13 rfl (by first | exact .inl rfl | exact .inr rfl | exact b2i_01 _) rfl (Nat.zero_le _) (retI_mk (by rfl))
set_option maxHeartbeats 4000000 in
set_option maxRecDepth 100000 in
theorem m_step (hs : ExtM sh) (hr : RokM rf) (hR : RM S v) (hV : SV S) {s b : Int} : Cv g mX7_step [aR 70, aI s, aI b] (sh, rf, v) (retI (a_step S s b) (sh, rf, v)) := by
  have hm := hR.cm
  have hv := hV.1.1
  have hS := nS_rng hv
  have hd := nd_rng hv
  have hq := pw16 hv.2.2.2.1 hv.2.2.2.2
  have hn24 := hV.1.2.1
  obtain ⟨hvB, hp1, hp2, hq1, hq2⟩ := id hv
  obtain ⟨m, hmq⟩ : ∃ m : Nat, (m : Int) = 2 ^ S.1.1.2.2.2.2.toNat := ⟨2 ^ S.1.1.2.2.2.2.toNat, by simp⟩
  have hnd : nd S.1.1 = 2 ^ S.1.1.2.2.2.1.toNat := rfl
  obtain ⟨a1, a2, a3, ⟨b1, b2, b3, b4⟩, ⟨c1, c2⟩, ⟨d1, d2⟩⟩ := id hR
  refine x_entry (ls := [some (aR 70), some (aI s), some (aI b)]) rfl rfl (Nat.le_of_ble_eq_true rfl) ?_
  refine x_al_n (q := 1) dX7_step_0 rfl rfl ?_
  refine x_il_n (q := 2) dX7_step_1 rfl rfl ?_
  refine x_VI (q := 5) (ci := 7) dX7_step_2 rfl kX7_step_152 (m_isState hs hr hm hv) rfl rfl (hs _ _ rfl) (by decide) rfl (Nat.le_of_ble_eq_true rfl) ⟨rfl, rfl⟩ ⟨Nat.zero_le _, Nat.zero_le _⟩ ?_
  refine x_if_eq (t := 27) (q := 8) dX7_step_5 rfl rfl (fun c_5 => ?_) (fun c_5 => ?_)
  · skip
    have e_5 := of_decide_eq_false (b2i_0.mp c_5)
    refine x_ic (q := 28) dX7_step_27 rfl rfl ?_
    exact x_iret dX7_step_28 rfl rfl (Nat.zero_le _) (retI_mk (by first | (rw [a_step, if_pos (by omega)]; done) | (rw [a_step, if_neg (by omega)])))
  · skip
    have e_5 := of_decide_eq_true (b2i_n0.mp c_5)
    refine x_il_n (q := 9) dX7_step_8 rfl rfl ?_
    refine x_i2l (q := 10) dX7_step_9 rfl ?_
    refine x_lc (q := 11) (z := 0) dX7_step_10 rfl rfl ?_
    refine x_lc (q := 12) (z := 1) dX7_step_11 rfl rfl ?_
    refine x_SI (q := 15) dX7_step_12 rfl kX7_step_70 (m_in) rfl rfl (Nat.le_of_ble_eq_true rfl) ⟨rfl, rfl⟩ ⟨Nat.zero_le _, Nat.zero_le _⟩ ?_
    refine x_if_eq (t := 27) (q := 18) dX7_step_15 rfl rfl (fun c_15 => ?_) (fun c_15 => ?_)
    · skip
      have e_15 := of_decide_eq_false (b2i_0.mp c_15)
      refine x_ic (q := 28) dX7_step_27 rfl rfl ?_
      exact x_iret dX7_step_28 rfl rfl (Nat.zero_le _) (retI_mk (by first | (rw [a_step, if_pos (by omega)]; done) | (rw [a_step, if_neg (by omega)])))
    · skip
      have e_15 := of_decide_eq_true (b2i_n0.mp c_15)
      refine x_al_n (q := 19) dX7_step_18 rfl rfl ?_
      refine x_il_n (q := 20) dX7_step_19 rfl rfl ?_
      refine x_il_n (q := 21) dX7_step_20 rfl rfl ?_
      refine x_VI (q := 24) (ci := 7) dX7_step_21 rfl kX7_step_85 (m_stepOf hs hr hm hv (by omega) (by omega) (by omega)) rfl rfl (hs _ _ rfl) (by decide) rfl (Nat.le_of_ble_eq_true rfl) ⟨rfl, rfl⟩ ⟨Nat.zero_le _, Nat.zero_le _⟩ ?_
      refine x_goto (t := 28) dX7_step_24 rfl ?_
      exact x_iret dX7_step_28 rfl rfl (Nat.zero_le _) (retI_mk (by first | (rw [a_step, if_pos (by omega)]; done) | (rw [a_step, if_neg (by omega)])))
set_option maxHeartbeats 4000000 in
set_option maxRecDepth 100000 in
theorem m_arc (hs : ExtM sh) (hr : RokM rf) (hR : RM S v) (hV : SV S) {s w k : Int} : Cv g mX7_arc [aR 70, aI s, aI w, aI k] (sh, rf, v) (sP (a_arc S s w k) sh rf v) := by
  have hm := hR.cm
  have hv := hV.1.1
  have hS := nS_rng hv
  have hd := nd_rng hv
  have hq := pw16 hv.2.2.2.1 hv.2.2.2.2
  have hn24 := hV.1.2.1
  obtain ⟨hvB, hp1, hp2, hq1, hq2⟩ := id hv
  obtain ⟨m, hmq⟩ : ∃ m : Nat, (m : Int) = 2 ^ S.1.1.2.2.2.2.toNat := ⟨2 ^ S.1.1.2.2.2.2.toNat, by simp⟩
  have hnd : nd S.1.1 = 2 ^ S.1.1.2.2.2.1.toNat := rfl
  obtain ⟨a1, a2, a3, ⟨b1, b2, b3, b4⟩, ⟨c1, c2⟩, ⟨d1, d2⟩⟩ := id hR
  refine x_entry (ls := [some (aR 70), some (aI s), some (aI w), some (aI k)]) rfl rfl (Nat.le_of_ble_eq_true rfl) ?_
  refine x_al_n (q := 1) dX7_arc_0 rfl rfl ?_
  refine x_il_n (q := 2) dX7_arc_1 rfl rfl ?_
  refine x_VI (q := 5) (ci := 7) dX7_arc_2 rfl kX7_arc_152 (m_isState hs hr hm hv) rfl rfl (hs _ _ rfl) (by decide) rfl (Nat.le_of_ble_eq_true rfl) ⟨rfl, rfl⟩ ⟨Nat.zero_le _, Nat.zero_le _⟩ ?_
  refine x_if_eq (t := 34) (q := 8) dX7_arc_5 rfl rfl (fun c_5 => ?_) (fun c_5 => ?_)
  · skip
    have e_5 := of_decide_eq_false (b2i_0.mp c_5)
    refine x_ic (q := 35) dX7_arc_34 rfl rfl ?_
    first
    | exact x_iret dX7_arc_35 rfl rfl (Nat.zero_le _) ⟨by rw [a_arc, if_pos (by omega)], v, rfl, Sm.refl v⟩
    | exact x_iret dX7_arc_35 rfl rfl (Nat.zero_le _) ⟨by rw [a_arc, if_neg (by omega), if_pos (by omega)], u, rfl, hsm⟩
    | exact x_iret dX7_arc_35 rfl rfl (Nat.zero_le _) ⟨by rw [a_arc, if_neg (by omega), if_neg (by omega)], u, rfl, hsm⟩
  · skip
    have e_5 := of_decide_eq_true (b2i_n0.mp c_5)
    refine x_il_n (q := 9) dX7_arc_8 rfl rfl ?_
    refine x_i2l (q := 10) dX7_arc_9 rfl ?_
    refine x_lc (q := 11) (z := 0) dX7_arc_10 rfl rfl ?_
    refine x_al_n (q := 12) dX7_arc_11 rfl rfl ?_
    refine x_VI (q := 15) (ci := 7) dX7_arc_12 rfl kX7_arc_78 (m_words hs hr hm hv) rfl rfl (hs _ _ rfl) (by decide) rfl (Nat.le_of_ble_eq_true rfl) ⟨rfl, rfl⟩ ⟨Nat.zero_le _, Nat.zero_le _⟩ ?_
    refine x_ic (q := 16) dX7_arc_15 rfl rfl ?_
    refine x_sub (q := 17) dX7_arc_16 rfl ⟨by omega, by omega⟩ ?_
    refine x_i2l (q := 18) dX7_arc_17 rfl ?_
    refine x_SI (q := 21) dX7_arc_18 rfl kX7_arc_70 (m_in) rfl rfl (Nat.le_of_ble_eq_true rfl) ⟨rfl, rfl⟩ ⟨Nat.zero_le _, Nat.zero_le _⟩ ?_
    refine x_if_eq (t := 34) (q := 24) dX7_arc_21 rfl rfl (fun c_21 => ?_) (fun c_21 => ?_)
    · skip
      have e_21 := of_decide_eq_false (b2i_0.mp c_21)
      refine x_ic (q := 35) dX7_arc_34 rfl rfl ?_
      first
      | exact x_iret dX7_arc_35 rfl rfl (Nat.zero_le _) ⟨by rw [a_arc, if_pos (by omega)], v, rfl, Sm.refl v⟩
      | exact x_iret dX7_arc_35 rfl rfl (Nat.zero_le _) ⟨by rw [a_arc, if_neg (by omega), if_pos (by omega)], u, rfl, hsm⟩
      | exact x_iret dX7_arc_35 rfl rfl (Nat.zero_le _) ⟨by rw [a_arc, if_neg (by omega), if_neg (by omega)], u, rfl, hsm⟩
    · skip
      have e_21 := of_decide_eq_true (b2i_n0.mp c_21)
      refine x_il_n (q := 25) dX7_arc_24 rfl rfl ?_
      refine x_i2l (q := 26) dX7_arc_25 rfl ?_
      refine x_lc (q := 27) (z := 0) dX7_arc_26 rfl rfl ?_
      refine x_lc (q := 28) (z := 1) dX7_arc_27 rfl rfl ?_
      refine x_SI (q := 31) dX7_arc_28 rfl kX7_arc_70 (m_in) rfl rfl (Nat.le_of_ble_eq_true rfl) ⟨rfl, rfl⟩ ⟨Nat.zero_le _, Nat.zero_le _⟩ ?_
      refine x_if_ne (t := 36) (q := 34) dX7_arc_31 rfl rfl (fun c_31 => ?_) (fun c_31 => ?_)
      · skip
        have e_31 := of_decide_eq_true (b2i_n0.mp c_31)
        refine x_al_n (q := 37) dX7_arc_36 rfl rfl ?_
        refine x_V (q := 40) (ci := 7) dX7_arc_37 rfl kX7_arc_56 (m_finds hs hr hm hv) rfl rfl (hs _ _ rfl) (by decide) rfl (Nat.le_of_ble_eq_true rfl) ⟨rfl, rfl⟩ ⟨Nat.zero_le _, Nat.zero_le _⟩ (fun r1 h1 hp => ?_)
        obtain ⟨rfl, u, rfl, hF⟩ := hp
        have hsm := hF.sm
        have hRu := hsm.rm hR
        have hmu := hRu.cm
        have hQ := hF.fq
        obtain ⟨f1, f2, f3, f4⟩ := id hQ
        have f5 := hF.2.2.2.2.1
        obtain ⟨e1, e2, e3, ⟨g1, g2, g3, g4⟩, ⟨h1, h2⟩, ⟨i1, i2⟩⟩ := id hRu
        obtain ⟨s, rfl⟩ := Int.eq_ofNat_of_zero_le (show 0 ≤ s by omega)
        refine x_il_n (q := 41) dX7_arc_40 rfl rfl ?_
        refine x_if_ne (t := 53) (q := 44) dX7_arc_41 rfl rfl (fun c_41 => ?_) (fun c_41 => ?_)
        · skip
          refine x_al_n (q := 54) dX7_arc_53 rfl rfl ?_
          refine x_il_n (q := 55) dX7_arc_54 rfl rfl ?_
          refine x_il_n (q := 56) dX7_arc_55 rfl rfl ?_
          refine x_VI (q := 59) (ci := 7) dX7_arc_56 rfl kX7_arc_149 (m_tag hs hr hmu hv f2 (by omega) (by omega)) rfl rfl (hs _ _ rfl) (by decide) rfl (Nat.le_of_ble_eq_true rfl) ⟨rfl, rfl⟩ ⟨Nat.zero_le _, Nat.zero_le _⟩ ?_
          first
          | exact x_iret dX7_arc_59 rfl rfl (Nat.zero_le _) ⟨by rw [a_arc, if_pos (by omega)], v, rfl, Sm.refl v⟩
          | exact x_iret dX7_arc_59 rfl rfl (Nat.zero_le _) ⟨by rw [a_arc, if_neg (by omega), if_pos (by omega)], u, rfl, hsm⟩
          | exact x_iret dX7_arc_59 rfl rfl (Nat.zero_le _) ⟨by rw [a_arc, if_neg (by omega), if_neg (by omega)], u, rfl, hsm⟩
        · skip
          refine x_al_n (q := 45) dX7_arc_44 rfl rfl ?_
          refine x_il_n (q := 46) dX7_arc_45 rfl rfl ?_
          refine x_il_n (q := 47) dX7_arc_46 rfl rfl ?_
          refine x_VI (q := 50) (ci := 7) dX7_arc_47 rfl kX7_arc_89 (m_lead hs hr hmu hv f1 (by omega) (by omega)) rfl rfl (hs _ _ rfl) (by decide) rfl (Nat.le_of_ble_eq_true rfl) ⟨rfl, rfl⟩ ⟨Nat.zero_le _, Nat.zero_le _⟩ ?_
          refine x_goto (t := 59) dX7_arc_50 rfl ?_
          first
          | exact x_iret dX7_arc_59 rfl rfl (Nat.zero_le _) ⟨by rw [a_arc, if_pos (by omega)], v, rfl, Sm.refl v⟩
          | exact x_iret dX7_arc_59 rfl rfl (Nat.zero_le _) ⟨by rw [a_arc, if_neg (by omega), if_pos (by omega)], u, rfl, hsm⟩
          | exact x_iret dX7_arc_59 rfl rfl (Nat.zero_le _) ⟨by rw [a_arc, if_neg (by omega), if_neg (by omega)], u, rfl, hsm⟩
      · skip
        have e_31 := of_decide_eq_false (b2i_0.mp c_31)
        refine x_ic (q := 35) dX7_arc_34 rfl rfl ?_
        first
        | exact x_iret dX7_arc_35 rfl rfl (Nat.zero_le _) ⟨by rw [a_arc, if_pos (by omega)], v, rfl, Sm.refl v⟩
        | exact x_iret dX7_arc_35 rfl rfl (Nat.zero_le _) ⟨by rw [a_arc, if_neg (by omega), if_pos (by omega)], u, rfl, hsm⟩
        | exact x_iret dX7_arc_35 rfl rfl (Nat.zero_le _) ⟨by rw [a_arc, if_neg (by omega), if_neg (by omega)], u, rfl, hsm⟩
set_option maxHeartbeats 4000000 in
set_option maxRecDepth 100000 in
theorem m_state (hs : ExtM sh) (hr : RokM rf) (hR : RM S v) (hV : SV S) {s k : Int} : Cv g mX7_state [aR 70, aI s, aI k] (sh, rf, v) (sP (a_state S s k) sh rf v) := by
  have hm := hR.cm
  have hv := hV.1.1
  have hS := nS_rng hv
  have hd := nd_rng hv
  have hq := pw16 hv.2.2.2.1 hv.2.2.2.2
  have hn24 := hV.1.2.1
  obtain ⟨hvB, hp1, hp2, hq1, hq2⟩ := id hv
  obtain ⟨m, hmq⟩ : ∃ m : Nat, (m : Int) = 2 ^ S.1.1.2.2.2.2.toNat := ⟨2 ^ S.1.1.2.2.2.2.toNat, by simp⟩
  have hnd : nd S.1.1 = 2 ^ S.1.1.2.2.2.1.toNat := rfl
  obtain ⟨a1, a2, a3, ⟨b1, b2, b3, b4⟩, ⟨c1, c2⟩, ⟨d1, d2⟩⟩ := id hR
  refine x_entry (ls := [some (aR 70), some (aI s), some (aI k), none, none]) rfl rfl (Nat.le_of_ble_eq_true rfl) ?_
  refine x_al_n (q := 1) dX7_state_0 rfl rfl ?_
  refine x_il_n (q := 2) dX7_state_1 rfl rfl ?_
  refine x_VI (q := 5) (ci := 7) dX7_state_2 rfl kX7_state_152 (m_isState hs hr hm hv) rfl rfl (hs _ _ rfl) (by decide) rfl (Nat.le_of_ble_eq_true rfl) ⟨rfl, rfl⟩ ⟨Nat.zero_le _, Nat.zero_le _⟩ ?_
  refine x_if_eq (t := 18) (q := 8) dX7_state_5 rfl rfl (fun c_5 => ?_) (fun c_5 => ?_)
  · skip
    have e_5 := of_decide_eq_false (b2i_0.mp c_5)
    refine x_ic (q := 19) dX7_state_18 rfl rfl ?_
    exact x_iret dX7_state_19 rfl rfl (Nat.zero_le _) ⟨by rw [a_state, if_pos (by omega)], v, rfl, Sm.refl v⟩
  · skip
    have e_5 := of_decide_eq_true (b2i_n0.mp c_5)
    refine x_il_n (q := 9) dX7_state_8 rfl rfl ?_
    refine x_i2l (q := 10) dX7_state_9 rfl ?_
    refine x_lc (q := 11) (z := 0) dX7_state_10 rfl rfl ?_
    refine x_lc (q := 12) (z := 1) dX7_state_11 rfl rfl ?_
    refine x_SI (q := 15) dX7_state_12 rfl kX7_state_70 (m_in) rfl rfl (Nat.le_of_ble_eq_true rfl) ⟨rfl, rfl⟩ ⟨Nat.zero_le _, Nat.zero_le _⟩ ?_
    refine x_if_ne (t := 20) (q := 18) dX7_state_15 rfl rfl (fun c_15 => ?_) (fun c_15 => ?_)
    · skip
      have e_15 := of_decide_eq_true (b2i_n0.mp c_15)
      refine x_al_n (q := 21) dX7_state_20 rfl rfl ?_
      refine x_V (q := 24) (ci := 7) dX7_state_21 rfl kX7_state_56 (m_finds hs hr hm hv) rfl rfl (hs _ _ rfl) (by decide) rfl (Nat.le_of_ble_eq_true rfl) ⟨rfl, rfl⟩ ⟨Nat.zero_le _, Nat.zero_le _⟩ (fun r1 h1 hp => ?_)
      obtain ⟨rfl, u, rfl, hF⟩ := hp
      have hsm := hF.sm
      have hRu := hsm.rm hR
      have hmu := hRu.cm
      have hQ := hF.fq
      obtain ⟨f1, f2, f3, f4⟩ := id hQ
      have f5 := hF.2.2.2.2.1
      obtain ⟨e1, e2, e3, ⟨g1, g2, g3, g4⟩, ⟨h1, h2⟩, ⟨i1, i2⟩⟩ := id hRu
      obtain ⟨s, rfl⟩ := Int.eq_ofNat_of_zero_le (show 0 ≤ s by omega)
      have hmk := mk_rng (Gd S.1.1) (nS S.1.1)
      refine x_ic (q := 25) dX7_state_24 rfl rfl ?_
      refine x_is3 (q := 26) dX7_state_25 rfl rfl ?_
      refine x_ic (q := 27) dX7_state_26 rfl rfl ?_
      refine x_is4 (q := 29) dX7_state_27 rfl rfl ?_
      have hpad : cnt (fun w => !decide (Ex (eT S.1.1) (s : Int) w = -9)) 16 = cnt (fun w => !decide (Ex (eT S.1.1) (s : Int) w = -9)) m := cnt_pad (fun w hw => by rw [Ex_o (s := s) (w := (w : Int)) (by omega) (fun _ => eT_o2 (by omega))]; rfl) (by omega)
      refine x_up (S := fun w => Wv g mX7_state 0 0 29 [some (aR 70), some (aI (s : Int)), some (aI k), some (aI (cnt (fun w => !decide (Ex (eT S.1.1) (s : Int) w = -9)) w)), some (aI (w : Int))] [] (sh, rf, u) (sP (a_state S (s : Int) k) sh rf v)) m ?_ ?_ 0 (Nat.zero_le _)
      · skip
        refine x_il (q := 31) dX7_state_29 rfl rfl ?_
        refine x_al_n (q := 32) dX7_state_31 rfl rfl ?_
        refine x_VI (q := 35) (ci := 7) dX7_state_32 rfl kX7_state_78 (m_words hs hr hmu hv) rfl rfl (hs _ _ rfl) (by decide) rfl (Nat.le_of_ble_eq_true rfl) ⟨rfl, rfl⟩ ⟨Nat.zero_le _, Nat.zero_le _⟩ ?_
        rw [← hmq]
        refine x_ic_ge (t := 64) (q := 38) dX7_state_35 rfl rfl (fun c_35 => ?_) (fun c_35 => ?_)
        · skip
          refine x_il_n (q := 65) dX7_state_64 rfl rfl ?_
          refine x_if_ne (t := 72) (q := 68) dX7_state_65 rfl rfl (fun c_65 => ?_) (fun c_65 => ?_)
          · skip
            refine x_al_n (q := 73) dX7_state_72 rfl rfl ?_
            refine x_getIe (q := 76) (z := mk (Gd S.1.1) (nS S.1.1)) dX7_state_73 rfl fX7_92 (hs _ _ rfl) rfl (f3) ?_
            refine x_il_n (q := 77) dX7_state_76 rfl rfl ?_
            refine x_shr (q := 78) dX7_state_77 rfl (by omega) (by omega) (by omega) ?_
            refine x_ic (q := 79) dX7_state_78 rfl rfl ?_
            refine x_and1 (q := 80) dX7_state_79 rfl (by first | exact nn_dv (by omega) | omega) ?_
            first
            | exact x_iret dX7_state_80 rfl rfl (Nat.zero_le _) ⟨by rw [a_state, if_neg (by omega), if_pos (by omega), hpad], u, rfl, hsm⟩
            | (refine x_iret dX7_state_80 rfl rfl (Nat.zero_le _) ⟨?_, u, rfl, hsm⟩
               rw [a_state, if_neg (by omega), if_neg (by omega), has_mk hS.2.1]
               by_cases hb : mk (Gd S.1.1) (nS S.1.1) / 2 ^ ((s : Int)).toNat % 2 = 1
               · rw [inS_t (by omega) (by omega) hb, hb]; rfl
               · rw [inS_f (by omega) (by omega) hb, show mk (Gd S.1.1) (nS S.1.1) / 2 ^ ((s : Int)).toNat % 2 = 0 by omega]; rfl)
          · skip
            refine x_il_n (q := 69) dX7_state_68 rfl rfl ?_
            refine x_goto (t := 80) dX7_state_69 rfl ?_
            first
            | exact x_iret dX7_state_80 rfl rfl (Nat.zero_le _) ⟨by rw [a_state, if_neg (by omega), if_pos (by omega), hpad], u, rfl, hsm⟩
            | (refine x_iret dX7_state_80 rfl rfl (Nat.zero_le _) ⟨?_, u, rfl, hsm⟩
               rw [a_state, if_neg (by omega), if_neg (by omega), has_mk hS.2.1]
               by_cases hb : mk (Gd S.1.1) (nS S.1.1) / 2 ^ ((s : Int)).toNat % 2 = 1
               · rw [inS_t (by omega) (by omega) hb, hb]; rfl
               · rw [inS_f (by omega) (by omega) hb, show mk (Gd S.1.1) (nS S.1.1) / 2 ^ ((s : Int)).toNat % 2 = 0 by omega]; rfl)
        · skip
          exact absurd (Int.le_refl _) c_35
      · intro w hwm ih
        have hcr := cnt_rng (fun w => !decide (Ex (eT S.1.1) (s : Int) w = -9)) w
        refine x_il (q := 31) dX7_state_29 rfl rfl ?_
        refine x_al_n (q := 32) dX7_state_31 rfl rfl ?_
        refine x_VI (q := 35) (ci := 7) dX7_state_32 rfl kX7_state_78 (m_words hs hr hmu hv) rfl rfl (hs _ _ rfl) (by decide) rfl (Nat.le_of_ble_eq_true rfl) ⟨rfl, rfl⟩ ⟨Nat.zero_le _, Nat.zero_le _⟩ ?_
        rw [← hmq]
        refine x_ic_ge (t := 64) (q := 38) dX7_state_35 rfl rfl (fun c_35 => ?_) (fun c_35 => ?_)
        · skip
          exact absurd c_35 (by omega)
        · skip
          refine x_il_n (q := 39) dX7_state_38 rfl rfl ?_
          refine x_al_n (q := 40) dX7_state_39 rfl rfl ?_
          refine x_il_n (q := 41) dX7_state_40 rfl rfl ?_
          refine x_il (q := 43) dX7_state_41 rfl rfl ?_
          refine x_VI (q := 46) (ci := 7) dX7_state_43 rfl kX7_state_89 (m_lead hs hr hmu hv f1 (by omega) (by omega)) rfl rfl (hs _ _ rfl) (by decide) rfl (Nat.le_of_ble_eq_true rfl) ⟨rfl, rfl⟩ ⟨Nat.zero_le _, Nat.zero_le _⟩ ?_
          refine x_bi (q := 48) dX7_state_46 rfl rfl ?_
          refine x_ic_ne (t := 55) (q := 51) dX7_state_48 rfl rfl (fun c_48 => ?_) (fun c_48 => ?_)
          · skip
            rw [cnt_t (by simp [c_48])] at ih
            refine x_ic (q := 56) dX7_state_55 rfl rfl ?_
            refine x_add (q := 57) dX7_state_56 rfl ⟨by omega, by omega⟩ ?_
            refine x_is3 (q := 58) dX7_state_57 rfl rfl ?_
            refine x_ii4 (q := 61) dX7_state_58 rfl rfl ⟨by omega, by omega⟩ ?_
            refine x_goto (t := 29) dX7_state_61 rfl ?_
            first | exact ih | (rw [Int.add_zero]; exact ih)
          · skip
            rw [cnt_f (by simp [c_48])] at ih
            refine x_ic (q := 52) dX7_state_51 rfl rfl ?_
            refine x_goto (t := 56) dX7_state_52 rfl ?_
            refine x_add (q := 57) dX7_state_56 rfl ⟨by omega, by omega⟩ ?_
            refine x_is3 (q := 58) dX7_state_57 rfl rfl ?_
            refine x_ii4 (q := 61) dX7_state_58 rfl rfl ⟨by omega, by omega⟩ ?_
            refine x_goto (t := 29) dX7_state_61 rfl ?_
            first | exact ih | (rw [Int.add_zero]; exact ih)
    · skip
      have e_15 := of_decide_eq_false (b2i_0.mp c_15)
      refine x_ic (q := 19) dX7_state_18 rfl rfl ?_
      exact x_iret dX7_state_19 rfl rfl (Nat.zero_le _) ⟨by rw [a_state, if_pos (by omega)], v, rfl, Sm.refl v⟩
set_option maxHeartbeats 4000000 in
set_option maxRecDepth 100000 in
theorem m_sends (hs : ExtM sh) (hr : RokM rf) (hR : RM S v) (hV : SV S) {t : Int} : Cv g mX7_sends [aR 70, aI t] (sh, rf, v) (mP (o_sends S t) sh rf v) := by
  have hm := hR.cm
  have hv := hV.1.1
  have hS := nS_rng hv
  have hd := nd_rng hv
  have hq := pw16 hv.2.2.2.1 hv.2.2.2.2
  have hn24 := hV.1.2.1
  obtain ⟨hvB, hp1, hp2, hq1, hq2⟩ := id hv
  obtain ⟨m, hmq⟩ : ∃ m : Nat, (m : Int) = 2 ^ S.1.1.2.2.2.2.toNat := ⟨2 ^ S.1.1.2.2.2.2.toNat, by simp⟩
  have hnd : nd S.1.1 = 2 ^ S.1.1.2.2.2.1.toNat := rfl
  obtain ⟨a1, a2, a3, ⟨b1, b2, b3, b4⟩, ⟨c1, c2⟩, ⟨d1, d2⟩⟩ := id hR
  refine x_entry (ls := [some (aR 70), some (aI t), none, none]) rfl rfl (Nat.le_of_ble_eq_true rfl) ?_
  refine x_il_n (q := 1) dX7_sends_0 rfl rfl ?_
  refine x_i2l (q := 2) dX7_sends_1 rfl ?_
  refine x_lc (q := 3) (z := 0) dX7_sends_2 rfl rfl ?_
  refine x_ic (q := 4) dX7_sends_3 rfl rfl ?_
  refine x_al_n (q := 5) dX7_sends_4 rfl rfl ?_
  refine x_getR (q := 8) (o := some (71)) dX7_sends_5 rfl fX7_7 (hs _ _ rfl) rfl (hr _ _ rfl) ?_
  refine x_ic (q := 9) dX7_sends_8 rfl rfl ?_
  refine x_ialde (q := 10) (z := S.1.1.2.2.2.1) dX7_sends_9 rfl (hs _ _ rfl) (by omega) (by omega) (hm.2.2.2.1) ?_
  refine x_pow (q := 11) dX7_sends_10 rfl (by omega) (by omega) ?_
  refine x_ic (q := 12) dX7_sends_11 rfl rfl ?_
  refine x_sub (q := 13) dX7_sends_12 rfl ⟨by omega, by omega⟩ ?_
  refine x_i2l (q := 14) dX7_sends_13 rfl ?_
  refine x_SI (q := 17) dX7_sends_14 rfl kX7_sends_70 m_in rfl rfl (Nat.le_of_ble_eq_true rfl) ⟨rfl, rfl⟩ ⟨Nat.zero_le _, Nat.zero_le _⟩ ?_
  refine x_if_ne (t := 22) (q := 20) dX7_sends_17 rfl rfl (fun c_17 => ?_) (fun c_17 => ?_)
  · skip
    have e_17 := of_decide_eq_true (b2i_n0.mp c_17)
    refine x_al_n (q := 23) dX7_sends_22 rfl rfl ?_
    refine x_V (q := 26) (ci := 7) dX7_sends_23 rfl kX7_sends_56 (m_finds hs hr hm hv) rfl rfl (hs _ _ rfl) (by decide) rfl (Nat.le_of_ble_eq_true rfl) ⟨rfl, rfl⟩ ⟨Nat.zero_le _, Nat.zero_le _⟩ (fun r1 h1 hp => ?_)
    obtain ⟨rfl, u, rfl, hF⟩ := hp
    have hsm := hF.sm
    have hRu := hsm.rm hR
    have hmu := hRu.cm
    have hQ := hF.fq
    obtain ⟨f1, f2, f3, f4⟩ := id hQ
    have f5 := hF.2.2.2.2.1
    obtain ⟨e1, e2, e3, ⟨g1, g2, g3, g4⟩, ⟨h1, h2⟩, ⟨i1, i2⟩⟩ := id hRu
    refine x_al_n (q := 27) dX7_sends_26 rfl rfl ?_
    refine x_getIe (q := 30) (z := mk (Gd S.1.1) (nS S.1.1)) dX7_sends_27 rfl fX7_92 (hs _ _ rfl) rfl (f3) ?_
    refine x_if_ne (t := 36) (q := 33) dX7_sends_30 rfl rfl (fun c_30 => ?_) (fun c_30 => ?_)
    · skip
      refine x_al_n (q := 37) dX7_sends_36 rfl rfl ?_
      refine x_getR (q := 40) (o := some (71)) dX7_sends_37 rfl fX7_7 (hs _ _ rfl) rfl (hr _ _ rfl) ?_
      refine x_ic (q := 41) dX7_sends_40 rfl rfl ?_
      refine x_ialde (q := 42) (z := (S.1.2.1 : Int)) dX7_sends_41 rfl (hs _ _ rfl) (by omega) (by omega) ((by exact e1.2.1)) ?_
      refine x_is2 (q := 43) dX7_sends_42 rfl rfl ?_
      refine x_il_n (q := 44) dX7_sends_43 rfl rfl ?_
      refine x_bi (q := 46) dX7_sends_44 rfl rfl ?_
      refine x_ic_ne (t := 52) (q := 49) dX7_sends_46 rfl rfl (fun c_46 => ?_) (fun c_46 => ?_)
      · skip
        obtain ⟨s, w, q, hs1, hgs, hse, w1, w2, w3, q1, q2, q3, q4⟩ := HV_send hV.1 c_30 (by omega) (show 0 ≤ t by omega) (by omega)
        refine x_al_n (q := 53) dX7_sends_52 rfl rfl ?_
        refine x_al_n (q := 54) dX7_sends_53 rfl rfl ?_
        refine x_getR (q := 57) (o := some (71)) dX7_sends_54 rfl fX7_7 (hs _ _ rfl) rfl (hr _ _ rfl) ?_
        refine x_bi (q := 59) dX7_sends_57 rfl rfl ?_
        refine x_ialde (q := 60) (z := (s : Int)) dX7_sends_59 rfl (hs _ _ rfl) (by omega) (by omega) (by rw [← hse]; exact e1.2.2.1) ?_
        refine x_il_n (q := 61) dX7_sends_60 rfl rfl ?_
        refine x_VI (q := 64) (ci := 7) dX7_sends_61 rfl kX7_sends_146 (m_wordFor hs hr hmu hv (s := s) f2 hs1 (by omega)) rfl rfl (hs _ _ rfl) (by decide) rfl (Nat.le_of_ble_eq_true rfl) ⟨rfl, rfl⟩ ⟨Nat.zero_le _, Nat.zero_le _⟩ ?_
        rw [hse, Int.toNat_natCast] at w3
        rw [w3]
        refine x_is3 (q := 65) dX7_sends_64 rfl rfl ?_
        refine x_al_n (q := 66) dX7_sends_65 rfl rfl ?_
        refine x_V (q := 69) (ci := 7) dX7_sends_66 rfl kX7_sends_140 (m_keepPast hs hr hRu hV) rfl rfl (hs _ _ rfl) (by decide) rfl (Nat.le_of_ble_eq_true rfl) ⟨rfl, rfl⟩ ⟨Nat.zero_le _, Nat.zero_le _⟩ (fun r1 h1 hp => ?_)
        obtain ⟨rfl, y, rfl, hRy, k1, k2⟩ := hp
        have hmy : CM y S.1.1 := hRy.cm
        refine x_al_n (q := 70) dX7_sends_69 rfl rfl ?_
        refine x_getR (q := 73) (o := some (71)) dX7_sends_70 rfl fX7_7 (hs _ _ rfl) rfl (hr _ _ rfl) ?_
        refine x_bi (q := 75) dX7_sends_73 rfl rfl ?_
        refine x_il_n (q := 76) dX7_sends_75 rfl rfl ?_
        refine x_add (q := 77) dX7_sends_76 rfl ⟨by omega, by omega⟩ ?_
        refine x_il_n (q := 78) dX7_sends_77 rfl rfl ?_
        refine x_iast (q := 79) dX7_sends_78 rfl (hs _ _ rfl) (by omega) (by omega) ?_
        refine x_al_n (q := 80) dX7_sends_79 rfl rfl ?_
        refine x_getR (q := 83) (o := some (71)) dX7_sends_80 rfl fX7_7 (hs _ _ rfl) rfl (hr _ _ rfl) ?_
        refine x_bi (q := 85) dX7_sends_83 rfl rfl ?_
        refine x_il_n (q := 86) dX7_sends_85 rfl rfl ?_
        refine x_add (q := 87) dX7_sends_86 rfl ⟨by omega, by omega⟩ ?_
        refine x_il_n (q := 88) dX7_sends_87 rfl rfl ?_
        refine x_iast (q := 89) dX7_sends_88 rfl (hs _ _ rfl) (by omega) (by omega) ?_
        refine x_al_n (q := 90) dX7_sends_89 rfl rfl ?_
        refine x_getR (q := 93) (o := some (71)) dX7_sends_90 rfl fX7_7 (hs _ _ rfl) rfl (hr _ _ rfl) ?_
        refine x_bi (q := 95) dX7_sends_93 rfl rfl ?_
        refine x_il_n (q := 96) dX7_sends_95 rfl rfl ?_
        refine x_add (q := 97) dX7_sends_96 rfl ⟨by omega, by omega⟩ ?_
        refine x_il_n (q := 98) dX7_sends_97 rfl rfl ?_
        refine x_iast (q := 99) dX7_sends_98 rfl (hs _ _ rfl) (by omega) (by omega) ?_
        refine x_al_n (q := 100) dX7_sends_99 rfl rfl ?_
        refine x_getR (q := 103) (o := some (71)) dX7_sends_100 rfl fX7_7 (hs _ _ rfl) rfl (hr _ _ rfl) ?_
        refine x_ic (q := 104) dX7_sends_103 rfl rfl ?_
        refine x_dup2 (q := 105) dX7_sends_104 rfl rfl rfl ?_
        refine x_ialde (q := 106) (z := (S.1.2.1 : Int)) dX7_sends_105 rfl (hs _ _ rfl) (by omega) (by omega) (by rw [up_at, if_neg (by omega), up_at, if_neg (by omega), up_at, if_neg (by omega)]; exact hRy.1.2.1) ?_
        refine x_ic (q := 107) dX7_sends_106 rfl rfl ?_
        refine x_add (q := 108) dX7_sends_107 rfl ⟨by omega, by omega⟩ ?_
        refine x_iast (q := 109) dX7_sends_108 rfl (hs _ _ rfl) (by omega) (by omega) ?_
        refine x_al_n (q := 110) dX7_sends_109 rfl rfl ?_
        refine x_getR (q := 113) (o := some (71)) dX7_sends_110 rfl fX7_7 (hs _ _ rfl) rfl (hr _ _ rfl) ?_
        refine x_bi (q := 115) dX7_sends_113 rfl rfl ?_
        refine x_al_n (q := 116) dX7_sends_115 rfl rfl ?_
        refine x_al_n (q := 117) dX7_sends_116 rfl rfl ?_
        refine x_getR (q := 120) (o := some (71)) dX7_sends_117 rfl fX7_7 (hs _ _ rfl) rfl (hr _ _ rfl) ?_
        refine x_bi (q := 122) dX7_sends_120 rfl rfl ?_
        refine x_ialde (q := 123) (z := (s : Int)) dX7_sends_122 rfl (hs _ _ rfl) (by omega) (by omega) (by rw [up_at, if_neg (by decide), up_at, if_neg (by omega), up_at, if_neg (by omega), up_at, if_neg (by omega), ← hse]; exact hRy.1.2.2.1) ?_
        refine x_il_n (q := 124) dX7_sends_123 rfl rfl ?_
        refine x_VI (q := 127) (ci := 7) dX7_sends_124 rfl kX7_sends_89 (m_lead hs hr (v := up (up (up (up y 71 (7 + (S.1.2.1 : Int)).toNat (w : Int)) 71 (31 + (S.1.2.1 : Int)).toNat (w : Int)) 71 (55 + (S.1.2.1 : Int)).toNat t) 71 (5 : Int).toNat ((S.1.2.1 : Int) + 1)) (c := S.1.1) (s := s) (CM_up (CM_up (CM_up (CM_up hmy (by omega)) (by omega)) (by omega)) (by decide)) hv (fun a b h1 h2 => by rw [up_n _ _ _ (by decide), up_n _ _ _ (by decide), up_n _ _ _ (by decide), up_n _ _ _ (by decide), k1 77 (by decide) (by decide)]; exact f1 a b h1 h2) (by omega) hs1) rfl rfl (hs _ _ rfl) (by decide) rfl (Nat.le_of_ble_eq_true rfl) ⟨rfl, rfl⟩ ⟨Nat.zero_le _, Nat.zero_le _⟩ ?_
        rw [hse] at q4
        rw [q4]
        refine x_iast (q := 128) dX7_sends_127 rfl (hs _ _ rfl) (by omega) (by omega) ?_
        refine x_il_n (q := 129) dX7_sends_128 rfl rfl ?_
        have hO : o_sends S t = ((w : Int), (S.1.1, S.1.2.1 + 1, upx S.1.2.2.1 S.1.2.1 (w : Int), upx S.1.2.2.2.1 S.1.2.1 (w : Int), upx S.1.2.2.2.2.1 S.1.2.1 t, (q : Int)), pushP S.2.1 S.1, S.2.2) := by unfold o_sends; rw [if_neg (by omega), if_neg c_30, if_neg (by omega), hse, Int.toNat_natCast, w3, q4]
        rw [hO]
        refine x_iret dX7_sends_129 rfl rfl (Nat.zero_le _) ⟨rfl, _, rfl, RM_cur hRy (fun d hd => by rw [up_n _ _ _ hd, up_n _ _ _ hd, up_n _ _ _ hd, up_n _ _ _ hd, up_n _ _ _ hd]) (MH_send hRy.1 (by show S.1.2.1 < 24; omega) (fun j => ?_)), fun d hd => by rw [up_n _ _ _ (by omega), up_n _ _ _ (by omega), up_n _ _ _ (by omega), up_n _ _ _ (by omega), up_n _ _ _ (by omega), k1 d (by omega) (by omega), hsm.1 d hd]⟩
        rw [up_at, up_at, up_at, up_at, up_at, show (7 + (S.1.2.1 : Int)).toNat = 7 + S.1.2.1 by omega, show (31 + (S.1.2.1 : Int)).toNat = 31 + S.1.2.1 by omega, show (55 + (S.1.2.1 : Int)).toNat = 55 + S.1.2.1 by omega]
        rfl
      · skip
        have hO : o_sends S t = (-3, S) := by unfold o_sends; rw [if_neg (by omega), if_neg c_30, if_pos (by omega)]
        refine x_bi (q := 51) dX7_sends_49 rfl rfl ?_
        exact x_iret dX7_sends_51 rfl rfl (Nat.zero_le _) ⟨by rw [hO], u, rfl, by rw [hO]; exact hRu, fun d hd => hsm.1 d hd⟩
    · skip
      have hO : o_sends S t = (-2, S) := by unfold o_sends; rw [if_neg (by omega), if_pos c_30]
      refine x_bi (q := 35) dX7_sends_33 rfl rfl ?_
      exact x_iret dX7_sends_35 rfl rfl (Nat.zero_le _) ⟨by rw [hO], u, rfl, by rw [hO]; exact hRu, fun d hd => hsm.1 d hd⟩
  · skip
    have e_17 := of_decide_eq_false (b2i_0.mp c_17)
    have hO : o_sends S t = (-1, S) := by unfold o_sends; rw [if_pos (by omega)]
    refine x_ic (q := 21) dX7_sends_20 rfl rfl ?_
    exact x_iret dX7_sends_21 rfl rfl (Nat.zero_le _) (mP_same hR (by rw [hO]) (by rw [hO]))
set_option maxHeartbeats 4000000 in
set_option maxRecDepth 100000 in
theorem m_flips (hs : ExtM sh) (hr : RokM rf) (hR : RM S v) (hV : SV S) {b : Int} : Cv g mX7_flips [aR 70, aI b] (sh, rf, v) (mP (o_flips S b) sh rf v) := by
  have hm := hR.cm
  have hv := hV.1.1
  have hS := nS_rng hv
  have hd := nd_rng hv
  have hq := pw16 hv.2.2.2.1 hv.2.2.2.2
  have hn24 := hV.1.2.1
  obtain ⟨hvB, hp1, hp2, hq1, hq2⟩ := id hv
  obtain ⟨m, hmq⟩ : ∃ m : Nat, (m : Int) = 2 ^ S.1.1.2.2.2.2.toNat := ⟨2 ^ S.1.1.2.2.2.2.toNat, by simp⟩
  have hnd : nd S.1.1 = 2 ^ S.1.1.2.2.2.1.toNat := rfl
  obtain ⟨a1, a2, a3, ⟨b1, b2, b3, b4⟩, ⟨c1, c2⟩, ⟨d1, d2⟩⟩ := id hR
  have hmul : (S.1.2.1 : Int) * S.1.1.2.2.2.2 ≤ 24 * 4 := Int.mul_le_mul (by omega) (by omega) (by omega) (by omega)
  have hmul0 : 0 ≤ (S.1.2.1 : Int) * S.1.1.2.2.2.2 := Int.mul_nonneg (by omega) (by omega)
  have hmulc : S.1.1.2.2.2.2 * (S.1.2.1 : Int) = (S.1.2.1 : Int) * S.1.1.2.2.2.2 := Int.mul_comm _ _
  refine x_entry (ls := [some (aR 70), some (aI b), none, none]) rfl rfl (Nat.le_of_ble_eq_true rfl) ?_
  refine x_il_n (q := 1) dX7_flips_0 rfl rfl ?_
  refine x_i2l (q := 2) dX7_flips_1 rfl ?_
  refine x_lc (q := 3) (z := 0) dX7_flips_2 rfl rfl ?_
  refine x_al_n (q := 4) dX7_flips_3 rfl rfl ?_
  refine x_getR (q := 7) (o := some (71)) dX7_flips_4 rfl fX7_7 (hs _ _ rfl) rfl (hr _ _ rfl) ?_
  refine x_ic (q := 8) dX7_flips_7 rfl rfl ?_
  refine x_ialde (q := 9) (z := S.1.1.2.2.2.2) dX7_flips_8 rfl (hs _ _ rfl) (by omega) (by omega) (hm.2.2.2.2) ?_
  refine x_i2l (q := 10) dX7_flips_9 rfl ?_
  refine x_al_n (q := 11) dX7_flips_10 rfl rfl ?_
  refine x_getR (q := 14) (o := some (71)) dX7_flips_11 rfl fX7_7 (hs _ _ rfl) rfl (hr _ _ rfl) ?_
  refine x_ic (q := 15) dX7_flips_14 rfl rfl ?_
  refine x_ialde (q := 16) (z := (S.1.2.1 : Int)) dX7_flips_15 rfl (hs _ _ rfl) (by omega) (by omega) ((by exact a1.2.1)) ?_
  refine x_i2l (q := 17) dX7_flips_16 rfl ?_
  refine x_lmul (q := 18) dX7_flips_17 rfl ⟨by omega, by omega⟩ ?_
  refine x_lc (q := 19) (z := 1) dX7_flips_18 rfl rfl ?_
  refine x_lsub (q := 20) dX7_flips_19 rfl ⟨by omega, by omega⟩ ?_
  refine x_SI (q := 23) dX7_flips_20 rfl kX7_flips_70 (m_in) rfl rfl (Nat.le_of_ble_eq_true rfl) ⟨rfl, rfl⟩ ⟨Nat.zero_le _, Nat.zero_le _⟩ ?_
  refine x_if_ne (t := 28) (q := 26) dX7_flips_23 rfl rfl (fun c_23 => ?_) (fun c_23 => ?_)
  · skip
    have e_23 := of_decide_eq_true (b2i_n0.mp c_23)
    have hlt : b < (S.1.2.1 : Int) * S.1.1.2.2.2.2 := by omega
    obtain ⟨g1, g2, g3, g4, g5⟩ := flip_rng hV.1 (show 0 ≤ b by omega) hlt
    have hfr := fnw_rng hV.1 (show 0 ≤ b by omega) hlt
    refine x_al_n (q := 29) dX7_flips_28 rfl rfl ?_
    refine x_V (q := 32) (ci := 7) dX7_flips_29 rfl kX7_flips_140 (m_keepPast hs hr hR hV) rfl rfl (hs _ _ rfl) (by decide) rfl (Nat.le_of_ble_eq_true rfl) ⟨rfl, rfl⟩ ⟨Nat.zero_le _, Nat.zero_le _⟩ (fun r1 h1 hp => ?_)
    obtain ⟨rfl, y, rfl, hRy, k1, k2⟩ := hp
    have hmy : CM y S.1.1 := hRy.cm
    have hw16 := hV.1.w16 g1
    have hyw : y 71 (31 + (b / S.1.1.2.2.2.2).toNat) = S.1.2.2.1 (b / S.1.1.2.2.2.2).toNat := by have := (hRy.1.2.2.2 _ g1).2.1; rw [show 0 + 31 + (b / S.1.1.2.2.2.2).toNat = 31 + (b / S.1.1.2.2.2.2).toNat by omega] at this; exact this
    refine x_il_n (q := 33) dX7_flips_32 rfl rfl ?_
    refine x_al_n (q := 34) dX7_flips_33 rfl rfl ?_
    refine x_getR (q := 37) (o := some (71)) dX7_flips_34 rfl fX7_7 (hs _ _ rfl) rfl (hr _ _ rfl) ?_
    refine x_ic (q := 38) dX7_flips_37 rfl rfl ?_
    refine x_ialde (q := 39) (z := S.1.1.2.2.2.2) dX7_flips_38 rfl (hs _ _ rfl) (by omega) (by omega) (hmy.2.2.2.2) ?_
    refine x_div (q := 40) dX7_flips_39 rfl (by omega) (by omega) ?_
    refine x_is2 (q := 41) dX7_flips_40 rfl rfl ?_
    refine x_al_n (q := 42) dX7_flips_41 rfl rfl ?_
    refine x_getR (q := 45) (o := some (71)) dX7_flips_42 rfl fX7_7 (hs _ _ rfl) rfl (hr _ _ rfl) ?_
    refine x_ic (q := 46) dX7_flips_45 rfl rfl ?_
    refine x_ialde (q := 47) (z := S.1.1.2.2.2.2) dX7_flips_46 rfl (hs _ _ rfl) (by omega) (by omega) (hmy.2.2.2.2) ?_
    refine x_ic (q := 48) dX7_flips_47 rfl rfl ?_
    refine x_sub (q := 49) dX7_flips_48 rfl ⟨by omega, by omega⟩ ?_
    refine x_il_n (q := 50) dX7_flips_49 rfl rfl ?_
    refine x_al_n (q := 51) dX7_flips_50 rfl rfl ?_
    refine x_getR (q := 54) (o := some (71)) dX7_flips_51 rfl fX7_7 (hs _ _ rfl) rfl (hr _ _ rfl) ?_
    refine x_ic (q := 55) dX7_flips_54 rfl rfl ?_
    refine x_ialde (q := 56) (z := S.1.1.2.2.2.2) dX7_flips_55 rfl (hs _ _ rfl) (by omega) (by omega) (hmy.2.2.2.2) ?_
    refine x_rem (q := 57) dX7_flips_56 rfl (by omega) (by omega) ?_
    refine x_sub (q := 58) dX7_flips_57 rfl ⟨by omega, by omega⟩ ?_
    refine x_is3 (q := 59) dX7_flips_58 rfl rfl ?_
    refine x_al_n (q := 60) dX7_flips_59 rfl rfl ?_
    refine x_getR (q := 63) (o := some (71)) dX7_flips_60 rfl fX7_7 (hs _ _ rfl) rfl (hr _ _ rfl) ?_
    refine x_bi (q := 65) dX7_flips_63 rfl rfl ?_
    refine x_il_n (q := 66) dX7_flips_65 rfl rfl ?_
    refine x_add (q := 67) dX7_flips_66 rfl ⟨by omega, by omega⟩ ?_
    refine x_dup2 (q := 68) dX7_flips_67 rfl rfl rfl ?_
    refine x_ialde (q := 69) (z := S.1.2.2.1 (b / S.1.1.2.2.2.2).toNat) dX7_flips_68 rfl (hs _ _ rfl) (by omega) (by omega) (by rw [show (31 + b / S.1.1.2.2.2.2).toNat = 31 + (b / S.1.1.2.2.2.2).toNat by omega]; exact hyw) ?_
    refine x_ic (q := 70) dX7_flips_69 rfl rfl ?_
    refine x_il_n (q := 71) dX7_flips_70 rfl rfl ?_
    refine x_pow (q := 72) dX7_flips_71 rfl (by omega) (by omega) ?_
    refine x_xor (q := 73) dX7_flips_72 rfl hw16.1 (Int.le_of_lt (pw_pos _)) ?_
    rw [show (((S.1.2.2.1 (b / S.1.1.2.2.2.2).toNat).toNat ^^^ ((2 : Int) ^ (S.1.1.2.2.2.2 - 1 - b % S.1.1.2.2.2.2).toNat).toNat : Nat) : Int) = fnw S b from rfl]
    refine x_iast (q := 74) dX7_flips_73 rfl (hs _ _ rfl) (by omega) (by omega) ?_
    refine x_al_n (q := 75) dX7_flips_74 rfl rfl ?_
    refine x_getR (q := 78) (o := some (71)) dX7_flips_75 rfl fX7_7 (hs _ _ rfl) rfl (hr _ _ rfl) ?_
    refine x_bi (q := 80) dX7_flips_78 rfl rfl ?_
    refine x_il_n (q := 81) dX7_flips_80 rfl rfl ?_
    refine x_add (q := 82) dX7_flips_81 rfl ⟨by omega, by omega⟩ ?_
    refine x_ialde (q := 83) (z := fnw S b) dX7_flips_82 rfl (hs _ _ rfl) (by omega) (by omega) (by rw [up_at, if_pos rfl]) ?_
    refine x_il_n (q := 84) dX7_flips_83 rfl rfl ?_
    refine x_shr (q := 85) dX7_flips_84 rfl hfr.1 (by omega) (by omega) ?_
    rw [show (S.1.1.2.2.2.2 - 1 - b % S.1.1.2.2.2.2).toNat = fpl S b from rfl]
    refine x_ic (q := 86) dX7_flips_85 rfl rfl ?_
    refine x_and1 (q := 87) dX7_flips_86 rfl (Int.ediv_nonneg hfr.1 (Int.le_of_lt (pw_pos _))) ?_
    have hO : o_flips S b = (fnw S b / 2 ^ fpl S b % 2, (S.1.1, S.1.2.1, upx S.1.2.2.1 (b / S.1.1.2.2.2.2).toNat (fnw S b), S.1.2.2.2), pushP S.2.1 S.1, S.2.2) := by unfold o_flips; rw [if_neg (by omega)]
    rw [hO]
    refine x_iret dX7_flips_87 rfl rfl (Nat.zero_le _) ⟨rfl, _, rfl, RM_cur hRy (fun d hd => by rw [up_n _ _ _ hd]) (MH_flip hRy.1 hn24 g1 (fun j => ?_)), fun d hd => by rw [up_n _ _ _ (by omega), k1 d (by omega) (by omega)]⟩
    rw [up_at, show (31 + b / S.1.1.2.2.2.2).toNat = 31 + (b / S.1.1.2.2.2.2).toNat by omega]
  · skip
    have e_23 := of_decide_eq_false (b2i_0.mp c_23)
    have hO : o_flips S b = (-1, S) := by unfold o_flips; rw [if_pos (by omega)]
    refine x_ic (q := 27) dX7_flips_26 rfl rfl ?_
    exact x_iret dX7_flips_27 rfl rfl (Nat.zero_le _) (mP_same hR (by rw [hO]) (by rw [hO]))
end MOB

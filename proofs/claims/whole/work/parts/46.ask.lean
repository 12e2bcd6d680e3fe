/-! ===== the Model: ask, count ===== -/
theorem bit_tb {n s : Nat} : ((n : Int) / 2 ^ s % 2 = 1) ↔ n.testBit s = true := by
  rw [Nat.testBit_eq_decide_div_mod_eq, decide_eq_true_iff]
  have e : ((2 ^ s : Nat) : Int) = 2 ^ s := by simp
  rw [← e, ← Int.natCast_ediv]
  omega
theorem hasB_or {x : Int} {k s : Nat} (h0 : 0 ≤ x) (h : hasB (((x.toNat ||| ((2 : Int) ^ k).toNat : Nat)) : Int) s = true) : hasB x s = true ∨ s = k := by
  unfold hasB at h ⊢
  have h1 := of_decide_eq_true h
  obtain ⟨a1, a2, a3⟩ := h1
  rw [Int.toNat_natCast] at a3
  have e : ((2 ^ k : Nat) : Int) = 2 ^ k := by simp
  rw [bit_tb, show ((2 : Int) ^ k).toNat = 2 ^ k from by rw [← e, Int.toNat_natCast], Nat.testBit_or, Nat.testBit_two_pow] at a3
  rcases Bool.or_eq_true _ _ ▸ a3 with q | q
  · left
    refine decide_eq_true ⟨a1, a2, ?_⟩
    rw [Int.toNat_natCast]
    have := bit_tb.mpr q
    rw [Int.toNat_of_nonneg h0] at this
    exact this
  · right
    have := of_decide_eq_true q
    omega
theorem FW_good {c : Cfg} (hv : Vld c) {f : Nat → Int} : ∀ (k i x : Nat), x < nS c → Gd c x = true → FW (tT c) (eT c) f k i x = -9 ∨ ∃ m : Nat, m < nS c ∧ Gd c m = true ∧ FW (tT c) (eT c) f k i x = (m : Int)
  | 0, i, x, hx, hg => .inr ⟨x, hx, hg, rfl⟩
  | k + 1, i, x, hx, hg => by
    unfold FW
    split
    · exact .inl rfl
    · rename_i hne
      obtain ⟨a1, a2, a3, a4, a5⟩ := Ex_ne hne
      rw [a5] at hne
      obtain ⟨-, -, -, -, -, m, m1, m2, m3⟩ := tT_good hv hne
      have e : Ex (eT c) x (f i) = (m : Int) := by unfold Ex; rw [if_pos ⟨a1, a2, a3, a4⟩]; exact m3
      rw [e]
      exact FW_good hv k (i + 1) m m1 m2
theorem seT_good {S : St} (hv : Vld S.1.1) {s : Nat} (hs : s < nS S.1.1) : seT S s = -9 ∨ ∃ m : Nat, m < nS S.1.1 ∧ Gd S.1.1 m = true ∧ seT S s = (m : Int) := by
  unfold seT
  split
  · rename_i h
    rw [has_mk (nS_rng hv).2.1, inS_nat hs] at h
    exact FW_good hv _ _ _ hs h
  · exact .inl rfl
theorem orT_good {S : St} (hv : Vld S.1.1) : ∀ k, k ≤ nS S.1.1 → ∀ s : Nat, hasB (orT S k) s = true → Gd S.1.1 s = true ∧ s < nS S.1.1
  | 0, _, s, h => by
    unfold hasB orT at h
    have := of_decide_eq_true h
    simp at this
  | k + 1, hk, s, h => by
    have ih := orT_good hv k (by omega) s
    unfold orT at h
    split at h
    · exact ih h
    · rename_i hne
      rcases hasB_or (orT_rng hv k (by omega)).1 h with q | q
      · exact ih q
      · rcases seT_good hv (s := k) (by omega) with z | ⟨m, m1, m2, m3⟩
        · exact absurd z hne
        · have : s = m := by rw [q, m3, Int.toNat_natCast]
          rw [this]; exact ⟨m2, m1⟩
theorem mostA_0 {b : Nat → Bool} {x : Nat → Int} : ∀ k, 0 ≤ mostA b x k
  | 0 => Int.le_refl _
  | k + 1 => by
    have := mostA_0 (b := b) (x := x) k
    unfold mostA
    split
    · split <;> omega
    · exact this
theorem mostA_ge {b : Nat → Bool} {x : Nat → Int} : ∀ {k s}, s < k → b s = true → x s ≤ mostA b x k
  | k + 1, s, hs, hb => by
    unfold mostA
    by_cases he : s = k
    · subst he
      rw [if_pos hb]
      split <;> omega
    · have := mostA_ge (b := b) (x := x) (k := k) (s := s) (by omega) hb
      split
      · split <;> omega
      · exact this
theorem mostA_at {b : Nat → Bool} {x : Nat → Int} : ∀ k, mostA b x k = 0 ∨ ∃ s, s < k ∧ b s = true ∧ mostA b x k = x s
  | 0 => .inl rfl
  | k + 1 => by
    have ih := mostA_at (b := b) (x := x) k
    unfold mostA
    split
    · rename_i hb
      split
      · exact .inr ⟨k, by omega, hb, rfl⟩
      · rcases ih with h | ⟨s, s1, s2, s3⟩
        · exact .inl h
        · exact .inr ⟨s, by omega, s2, s3⟩
    · rcases ih with h | ⟨s, s1, s2, s3⟩
      · exact .inl h
      · exact .inr ⟨s, by omega, s2, s3⟩
theorem cnt_ex {f : Nat → Bool} : ∀ {n}, 0 < cnt f n → ∃ s, s < n ∧ f s = true
  | 0, h => by simp [cnt] at h
  | n + 1, h => by
    cases hf : f n with
    | true => exact ⟨n, by omega, hf⟩
    | false =>
      rw [cnt_f hf] at h
      obtain ⟨s, s1, s2⟩ := cnt_ex h
      exact ⟨s, by omega, s2⟩
def NW (S : St) (b t : Int) (w : Nat) : Int := cnt (fun s => hasB b s && decide (tT S.1.1 s w = t)) (nS S.1.1)
theorem moA_mx {S : St} (hv : Vld S.1.1) {b t : Int} {m : Nat} (hm : (m : Int) = 2 ^ S.1.1.2.2.2.2.toNat) (hb : ∀ s : Nat, hasB b s = true → Gd S.1.1 s = true ∧ s < nS S.1.1) (h0 : 0 ≤ t) (h1 : t < nd S.1.1) : moA S b t = mostA (fun _ => true) (NW S b t) m := by
  have hq := pw16 hv.2.2.2.1 hv.2.2.2.2
  have key : ∀ s w : Nat, hasB b s = true → tT S.1.1 s w = t → wwT (tT S.1.1) s t = (w : Int) := by
    intro s w hs hw
    obtain ⟨w2, w3, w4, w5⟩ := ww_ok hv (hb s hs).2 (hb s hs).1 h0 h1
    rw [w4, tT_inj hv h0 hw w5]
  have eq : ∀ s w : Nat, hasB b s = true → tT S.1.1 s w = t → cnt (fun s2 => hasB b s2 && decide (wwT (tT S.1.1) s2 t = wwT (tT S.1.1) s t)) (nS S.1.1) = NW S b t w := by
    intro s w hs hw
    refine cnt_cong (fun s2 hs2 => ?_)
    cases hb2 : hasB b s2 with
    | false => rfl
    | true =>
      rw [Bool.true_and, Bool.true_and, key s w hs hw]
      obtain ⟨w2, w3, w4, w5⟩ := ww_ok hv (hb s2 hb2).2 (hb s2 hb2).1 h0 h1
      rw [w4]
      by_cases he : w2 = w
      · rw [decide_eq_true (by omega), decide_eq_true (by rw [← he]; exact w5)]
      · rw [decide_eq_false (by omega), decide_eq_false (fun h => he (tT_inj hv h0 w5 h))]
  apply Int.le_antisymm
  · unfold moA
    rcases mostA_at (b := fun s => hasB b s) (x := fun s => cnt (fun s2 => hasB b s2 && decide (wwT (tT S.1.1) s2 t = wwT (tT S.1.1) s t)) (nS S.1.1)) (nS S.1.1) with h | ⟨s, s1, s2, s3⟩
    · rw [h]; exact mostA_0 _
    · rw [s3]
      have hbs : hasB b s = true := s2
      obtain ⟨w2, w3, w4, w5⟩ := ww_ok hv s1 (hb s hbs).1 h0 h1
      have hwm := (tT_good hv (s := s) (w := w2) (by rw [w5]; omega)).2.2.1
      rw [eq s w2 hbs w5]
      exact mostA_ge (by omega) rfl
  · rcases mostA_at (b := fun _ => true) (x := NW S b t) m with h | ⟨w, w1, -, w3⟩
    · rw [h]; exact mostA_0 _
    · rw [w3]
      by_cases hz : 0 < NW S b t w
      · obtain ⟨s, s1, s2⟩ := cnt_ex hz
        rw [Bool.and_eq_true] at s2
        have hw := of_decide_eq_true s2.2
        rw [← eq s w s2.1 hw]
        exact mostA_ge (b := fun s => hasB b s) (x := fun s => cnt (fun s2 => hasB b s2 && decide (wwT (tT S.1.1) s2 t = wwT (tT S.1.1) s t)) (nS S.1.1)) s1 s2.1
      · exact Int.le_trans (by omega) (mostA_0 _)
set_option maxRecDepth 100000 in
theorem two_fin : ∀ n : Nat, n < 128 → ((Int32.ofInt (n : Int) &&& Int32.ofInt ((n : Int) - 1)).toInt = 0 ↔ pcnt (n : Int) < 2) := by decide +kernel
theorem two_bits {x : Int} (h0 : 0 ≤ x) (h1 : x < 128) : ((Int32.ofInt x &&& Int32.ofInt (x - 1)).toInt = 0 ↔ pcnt x < 2) := by
  obtain ⟨n, rfl⟩ := Int.eq_ofNat_of_zero_le h0
  exact two_fin n (by omega)
section MOK
variable {g : GL} {sh : List (Nat × Nat)} {rf : Nat → Nat → Option Nat} {v : Nat → Nat → Int} {S : St}

set_option maxHeartbeats 4000000 in
set_option maxRecDepth 100000 in
theorem m_ask (hs : ExtM sh) (hr : RokM rf) (hR : RM S v) (hV : SV S)  : Cv g mX7_ask [aR 70] (sh, rf, v) (sP (a_ask S) sh rf v) := by
  have hm := hR.cm
  have hv := hV.1.1
  have hS := nS_rng hv
  have hd := nd_rng hv
  have hq := pw16 hv.2.2.2.1 hv.2.2.2.2
  have hn24 := hV.1.2.1
  obtain ⟨hvB, hp1, hp2, hq1, hq2⟩ := id hv
  obtain ⟨m, hmq⟩ : ∃ m : Nat, (m : Int) = 2 ^ S.1.1.2.2.2.2.toNat := ⟨2 ^ S.1.1.2.2.2.2.toNat, by simp⟩
  have hnd : nd S.1.1 = 2 ^ S.1.1.2.2.2.1.toNat := rfl
  obtain ⟨a1, a2, a3, ⟨b1, b2, b3, b4⟩, ⟨c1, c2⟩, ⟨d1, d2⟩⟩ := id hR
  have hor := orT_rng hV.1.1 (nS S.1.1) (Nat.le_refl _)
  have hgo := orT_good hV.1.1 (nS S.1.1) (Nat.le_refl _)
  refine x_entry (ls := [some (aR 70), none, none, none, none, none, none, none, none]) rfl rfl (Nat.le_of_ble_eq_true rfl) ?_
  refine x_al_n (q := 1) dX7_ask_0 rfl rfl ?_
  refine x_V (q := 4) (ci := 7) dX7_ask_1 rfl kX7_ask_56 (m_finds hs hr hm hv) rfl rfl (hs _ _ rfl) (by decide) rfl (Nat.le_of_ble_eq_true rfl) ⟨rfl, rfl⟩ ⟨Nat.zero_le _, Nat.zero_le _⟩ (fun r1 h1 hp => ?_)
  obtain ⟨rfl, u, rfl, hF⟩ := hp
  have hsm := hF.sm
  have hRu := hsm.rm hR
  have hmu := hRu.cm
  have hQ := hF.fq
  obtain ⟨f1, f2, f3, f4⟩ := id hQ
  have f5 := hF.2.2.2.2.1
  obtain ⟨e1, e2, e3, ⟨g1, g2, g3, g4⟩, ⟨h1, h2⟩, ⟨i1, i2⟩⟩ := id hRu
  refine x_al_n (q := 5) dX7_ask_4 rfl rfl ?_
  refine x_ic (q := 6) dX7_ask_5 rfl rfl ?_
  refine x_VI (q := 9) (ci := 7) dX7_ask_6 rfl kX7_ask_187 (m_seen1 hs hr hRu hV hQ) rfl rfl (hs _ _ rfl) (by decide) rfl (Nat.le_of_ble_eq_true rfl) ⟨rfl, rfl⟩ ⟨Nat.zero_le _, Nat.zero_le _⟩ ?_
  refine x_is1 (q := 10) dX7_ask_9 rfl rfl ?_
  refine x_il_n (q := 11) dX7_ask_10 rfl rfl ?_
  refine x_il_n (q := 12) dX7_ask_11 rfl rfl ?_
  refine x_ic (q := 13) dX7_ask_12 rfl rfl ?_
  refine x_sub (q := 14) dX7_ask_13 rfl ⟨by omega, by omega⟩ ?_
  refine x_andG (q := 15) dX7_ask_14 rfl ?_
  refine x_if_ne (t := 21) (q := 18) dX7_ask_15 rfl rfl (fun c_15 => ?_) (fun c_15 => ?_)
  · skip
    have hp2 : ¬ pcnt (orT S (nS S.1.1)) < 2 := fun h => c_15 ((two_bits hor.1 hor.2).mpr h)
    have hG : a_ask S = (bst S (orT S (nS S.1.1)) (nd S.1.1).toNat).1 := by unfold a_ask; rw [if_neg hp2]
    rw [hG]
    refine x_bi (q := 23) dX7_ask_21 rfl rfl ?_
    refine x_is2 (q := 24) dX7_ask_23 rfl rfl ?_
    refine x_bi (q := 26) dX7_ask_24 rfl rfl ?_
    refine x_is3 (q := 27) dX7_ask_26 rfl rfl ?_
    refine x_ic (q := 28) dX7_ask_27 rfl rfl ?_
    refine x_is4 (q := 30) dX7_ask_28 rfl rfl ?_
    refine x_up (S := fun t => ∀ o5 o6 o7 o8 : Option AV, Wv g mX7_ask 0 0 30 [some (aR 70), some (aI (orT S (nS S.1.1))), some (aI (bst S (orT S (nS S.1.1)) t).1), some (aI (bst S (orT S (nS S.1.1)) t).2), some (aI (t : Int)), o5, o6, o7, o8] [] (sh, rf, u) (sP (bst S (orT S (nS S.1.1)) (nd S.1.1).toNat).1 sh rf v)) (nd S.1.1).toNat ?_ ?_ 0 (Nat.zero_le _) none none none none
    · intro o5 o6 o7 o8
      refine x_il (q := 32) dX7_ask_30 rfl rfl ?_
      refine x_ic (q := 33) dX7_ask_32 rfl rfl ?_
      refine x_al_n (q := 34) dX7_ask_33 rfl rfl ?_
      refine x_getR (q := 37) (o := some (71)) dX7_ask_34 rfl fX7_7 (hs _ _ rfl) rfl (hr _ _ rfl) ?_
      refine x_ic (q := 38) dX7_ask_37 rfl rfl ?_
      refine x_ialde (q := 39) (z := S.1.1.2.2.2.1) dX7_ask_38 rfl (hs _ _ rfl) (by omega) (by omega) (hmu.2.2.2.1) ?_
      refine x_pow (q := 40) dX7_ask_39 rfl (by omega) (by omega) ?_
      rw [← hnd]
      refine x_ic_ge (t := 166) (q := 43) dX7_ask_40 rfl rfl (fun c_40 => ?_) (fun c_40 => ?_)
      · skip
        refine x_il_n (q := 167) dX7_ask_166 rfl rfl ?_
        exact x_iret dX7_ask_167 rfl rfl (Nat.zero_le _) ⟨rfl, u, rfl, hsm⟩
      · skip
        exact absurd (by omega) c_40
    · intro t ht ih o5 o6 o7 o8
      have hmo : moA S (orT S (nS S.1.1)) (t : Int) = mostA (fun _ => true) (NW S (orT S (nS S.1.1)) (t : Int)) m := moA_mx hv hmq hgo (by omega) (by omega)
      refine x_il (q := 32) dX7_ask_30 rfl rfl ?_
      refine x_ic (q := 33) dX7_ask_32 rfl rfl ?_
      refine x_al_n (q := 34) dX7_ask_33 rfl rfl ?_
      refine x_getR (q := 37) (o := some (71)) dX7_ask_34 rfl fX7_7 (hs _ _ rfl) rfl (hr _ _ rfl) ?_
      refine x_ic (q := 38) dX7_ask_37 rfl rfl ?_
      refine x_ialde (q := 39) (z := S.1.1.2.2.2.1) dX7_ask_38 rfl (hs _ _ rfl) (by omega) (by omega) (hmu.2.2.2.1) ?_
      refine x_pow (q := 40) dX7_ask_39 rfl (by omega) (by omega) ?_
      rw [← hnd]
      refine x_ic_ge (t := 166) (q := 43) dX7_ask_40 rfl rfl (fun c_40 => ?_) (fun c_40 => ?_)
      · skip
        exact absurd c_40 (by omega)
      · skip
        refine x_ic (q := 44) dX7_ask_43 rfl rfl ?_
        refine x_is5 (q := 46) dX7_ask_44 rfl rfl ?_
        refine x_ic (q := 47) dX7_ask_46 rfl rfl ?_
        refine x_is6 (q := 49) dX7_ask_47 rfl rfl ?_
        refine x_up (S := fun w => ∀ o7 o8 : Option AV, Wv g mX7_ask 0 0 49 [some (aR 70), some (aI (orT S (nS S.1.1))), some (aI (bst S (orT S (nS S.1.1)) t).1), some (aI (bst S (orT S (nS S.1.1)) t).2), some (aI (t : Int)), some (aI (mostA (fun _ => true) (NW S (orT S (nS S.1.1)) (t : Int)) w)), some (aI (w : Int)), o7, o8] [] (sh, rf, u) (sP (bst S (orT S (nS S.1.1)) (nd S.1.1).toNat).1 sh rf v)) m ?_ ?_ 0 (Nat.zero_le _) o7 o8
        · intro o7 o8
          refine x_il (q := 51) dX7_ask_49 rfl rfl ?_
          refine x_al_n (q := 52) dX7_ask_51 rfl rfl ?_
          refine x_VI (q := 55) (ci := 7) dX7_ask_52 rfl kX7_ask_78 (m_words hs hr hmu hv) rfl rfl (hs _ _ rfl) (by decide) rfl (Nat.le_of_ble_eq_true rfl) ⟨rfl, rfl⟩ ⟨Nat.zero_le _, Nat.zero_le _⟩ ?_
          rw [← hmq]
          refine x_ic_ge (t := 134) (q := 58) dX7_ask_55 rfl rfl (fun c_55 => ?_) (fun c_55 => ?_)
          · skip
            refine x_il (q := 136) dX7_ask_134 rfl rfl ?_
            refine x_il_n (q := 137) dX7_ask_136 rfl rfl ?_
            refine x_ic_ge (t := 145) (q := 140) dX7_ask_137 rfl rfl (fun c_137 => ?_) (fun c_137 => ?_)
            · skip
              have hB : bst S (orT S (nS S.1.1)) (t + 1) = bst S (orT S (nS S.1.1)) t := by show (if _ then _ else _) = _; rw [hmo, if_neg (by omega)]
              rw [hB] at ih
              refine x_il_n (q := 146) dX7_ask_145 rfl rfl ?_
              refine x_is2 (q := 147) dX7_ask_146 rfl rfl ?_
              refine x_il (q := 149) dX7_ask_147 rfl rfl ?_
              refine x_il_n (q := 150) dX7_ask_149 rfl rfl ?_
              refine x_ic_ge (t := 158) (q := 153) dX7_ask_150 rfl rfl (fun c_150 => ?_) (fun c_150 => ?_)
              · skip
                refine x_il_n (q := 159) dX7_ask_158 rfl rfl ?_
                refine x_is3 (q := 160) dX7_ask_159 rfl rfl ?_
                refine x_ii4 (q := 163) dX7_ask_160 rfl rfl ⟨by omega, by omega⟩ ?_
                refine x_goto (t := 30) dX7_ask_163 rfl ?_
                first | exact absurd c_137 c_150 | exact absurd c_150 c_137 | exact ih _ _ _ _
              · skip
                refine x_il (q := 155) dX7_ask_153 rfl rfl ?_
                refine x_goto (t := 159) dX7_ask_155 rfl ?_
                refine x_is3 (q := 160) dX7_ask_159 rfl rfl ?_
                refine x_ii4 (q := 163) dX7_ask_160 rfl rfl ⟨by omega, by omega⟩ ?_
                refine x_goto (t := 30) dX7_ask_163 rfl ?_
                first | exact absurd c_137 c_150 | exact absurd c_150 c_137 | exact ih _ _ _ _
            · skip
              have hB : bst S (orT S (nS S.1.1)) (t + 1) = ((t : Int), mostA (fun _ => true) (NW S (orT S (nS S.1.1)) (t : Int)) m) := by show (if _ then _ else _) = _; rw [hmo, if_pos (by omega)]
              rw [hB] at ih
              refine x_il (q := 142) dX7_ask_140 rfl rfl ?_
              refine x_goto (t := 146) dX7_ask_142 rfl ?_
              refine x_is2 (q := 147) dX7_ask_146 rfl rfl ?_
              refine x_il (q := 149) dX7_ask_147 rfl rfl ?_
              refine x_il_n (q := 150) dX7_ask_149 rfl rfl ?_
              refine x_ic_ge (t := 158) (q := 153) dX7_ask_150 rfl rfl (fun c_150 => ?_) (fun c_150 => ?_)
              · skip
                refine x_il_n (q := 159) dX7_ask_158 rfl rfl ?_
                refine x_is3 (q := 160) dX7_ask_159 rfl rfl ?_
                refine x_ii4 (q := 163) dX7_ask_160 rfl rfl ⟨by omega, by omega⟩ ?_
                refine x_goto (t := 30) dX7_ask_163 rfl ?_
                first | exact absurd c_137 c_150 | exact absurd c_150 c_137 | exact ih _ _ _ _
              · skip
                refine x_il (q := 155) dX7_ask_153 rfl rfl ?_
                refine x_goto (t := 159) dX7_ask_155 rfl ?_
                refine x_is3 (q := 160) dX7_ask_159 rfl rfl ?_
                refine x_ii4 (q := 163) dX7_ask_160 rfl rfl ⟨by omega, by omega⟩ ?_
                refine x_goto (t := 30) dX7_ask_163 rfl ?_
                first | exact absurd c_137 c_150 | exact absurd c_150 c_137 | exact ih _ _ _ _
          · skip
            exact absurd (Int.le_refl _) c_55
        · intro w hwm ihw o7 o8
          refine x_il (q := 51) dX7_ask_49 rfl rfl ?_
          refine x_al_n (q := 52) dX7_ask_51 rfl rfl ?_
          refine x_VI (q := 55) (ci := 7) dX7_ask_52 rfl kX7_ask_78 (m_words hs hr hmu hv) rfl rfl (hs _ _ rfl) (by decide) rfl (Nat.le_of_ble_eq_true rfl) ⟨rfl, rfl⟩ ⟨Nat.zero_le _, Nat.zero_le _⟩ ?_
          rw [← hmq]
          refine x_ic_ge (t := 134) (q := 58) dX7_ask_55 rfl rfl (fun c_55 => ?_) (fun c_55 => ?_)
          · skip
            exact absurd c_55 (by omega)
          · skip
            refine x_ic (q := 59) dX7_ask_58 rfl rfl ?_
            refine x_is7 (q := 61) dX7_ask_59 rfl rfl ?_
            refine x_ic (q := 62) dX7_ask_61 rfl rfl ?_
            refine x_is8 (q := 64) dX7_ask_62 rfl rfl ?_
            refine x_up (S := fun s => Wv g mX7_ask 0 0 64 [some (aR 70), some (aI (orT S (nS S.1.1))), some (aI (bst S (orT S (nS S.1.1)) t).1), some (aI (bst S (orT S (nS S.1.1)) t).2), some (aI (t : Int)), some (aI (mostA (fun _ => true) (NW S (orT S (nS S.1.1)) (t : Int)) w)), some (aI (w : Int)), some (aI (cnt (fun s => hasB (orT S (nS S.1.1)) s && decide (tT S.1.1 s w = (t : Int))) s)), some (aI (s : Int))] [] (sh, rf, u) (sP (bst S (orT S (nS S.1.1)) (nd S.1.1).toNat).1 sh rf v)) (nS S.1.1) ?_ ?_ 0 (Nat.zero_le _)
            · skip
              refine x_il (q := 66) dX7_ask_64 rfl rfl ?_
              refine x_al_n (q := 67) dX7_ask_66 rfl rfl ?_
              refine x_VI (q := 70) (ci := 7) dX7_ask_67 rfl kX7_ask_82 (m_states hs hr hmu hv) rfl rfl (hs _ _ rfl) (by decide) rfl (Nat.le_of_ble_eq_true rfl) ⟨rfl, rfl⟩ ⟨Nat.zero_le _, Nat.zero_le _⟩ ?_
              refine x_ic_ge (t := 112) (q := 73) dX7_ask_70 rfl rfl (fun c_70 => ?_) (fun c_70 => ?_)
              · skip
                refine x_il (q := 114) dX7_ask_112 rfl rfl ?_
                refine x_il (q := 116) dX7_ask_114 rfl rfl ?_
                refine x_ic_le (t := 124) (q := 119) dX7_ask_116 rfl rfl (fun c_116 => ?_) (fun c_116 => ?_)
                · skip
                  have hM : mostA (fun _ => true) (NW S (orT S (nS S.1.1)) (t : Int)) (w + 1) = mostA (fun _ => true) (NW S (orT S (nS S.1.1)) (t : Int)) w := by show (if _ = true then _ else _) = _; rw [if_pos rfl]; show (if _ < cnt (fun s => hasB (orT S (nS S.1.1)) s && decide (tT S.1.1 s w = (t : Int))) (nS S.1.1) then _ else _) = _; rw [if_neg (by omega)]
                  rw [hM] at ihw
                  refine x_il (q := 126) dX7_ask_124 rfl rfl ?_
                  refine x_is5 (q := 128) dX7_ask_126 rfl rfl ?_
                  refine x_ii6 (q := 131) dX7_ask_128 rfl rfl ⟨by omega, by omega⟩ ?_
                  refine x_goto (t := 49) dX7_ask_131 rfl ?_
                  exact ihw _ _
                · skip
                  have hM : mostA (fun _ => true) (NW S (orT S (nS S.1.1)) (t : Int)) (w + 1) = cnt (fun s => hasB (orT S (nS S.1.1)) s && decide (tT S.1.1 s w = (t : Int))) (nS S.1.1) := by show (if _ = true then _ else _) = _; rw [if_pos rfl]; show (if _ < cnt (fun s => hasB (orT S (nS S.1.1)) s && decide (tT S.1.1 s w = (t : Int))) (nS S.1.1) then _ else _) = _; rw [if_pos (by omega)]; rfl
                  rw [hM] at ihw
                  refine x_il (q := 121) dX7_ask_119 rfl rfl ?_
                  refine x_goto (t := 126) dX7_ask_121 rfl ?_
                  refine x_is5 (q := 128) dX7_ask_126 rfl rfl ?_
                  refine x_ii6 (q := 131) dX7_ask_128 rfl rfl ⟨by omega, by omega⟩ ?_
                  refine x_goto (t := 49) dX7_ask_131 rfl ?_
                  exact ihw _ _
              · skip
                exact absurd (Int.le_refl _) c_70
            · intro s hsn ihs
              have hcr := cnt_rng (fun s => hasB (orT S (nS S.1.1)) s && decide (tT S.1.1 s w = (t : Int))) s
              refine x_il (q := 66) dX7_ask_64 rfl rfl ?_
              refine x_al_n (q := 67) dX7_ask_66 rfl rfl ?_
              refine x_VI (q := 70) (ci := 7) dX7_ask_67 rfl kX7_ask_82 (m_states hs hr hmu hv) rfl rfl (hs _ _ rfl) (by decide) rfl (Nat.le_of_ble_eq_true rfl) ⟨rfl, rfl⟩ ⟨Nat.zero_le _, Nat.zero_le _⟩ ?_
              refine x_ic_ge (t := 112) (q := 73) dX7_ask_70 rfl rfl (fun c_70 => ?_) (fun c_70 => ?_)
              · skip
                exact absurd c_70 (by omega)
              · skip
                refine x_il (q := 75) dX7_ask_73 rfl rfl ?_
                refine x_il_n (q := 76) dX7_ask_75 rfl rfl ?_
                refine x_il (q := 78) dX7_ask_76 rfl rfl ?_
                refine x_shr (q := 79) dX7_ask_78 rfl (by omega) (by omega) (by omega) ?_
                refine x_ic (q := 80) dX7_ask_79 rfl rfl ?_
                refine x_and1 (q := 81) dX7_ask_80 rfl (by first | exact nn_dv (by omega) | omega) ?_
                refine x_ic (q := 82) dX7_ask_81 rfl rfl ?_
                refine x_ic_ne (t := 102) (q := 85) dX7_ask_82 rfl rfl (fun c_82 => ?_) (fun c_82 => ?_)
                · skip
                  rw [cnt_f (f := (fun s => hasB (orT S (nS S.1.1)) s && decide (tT S.1.1 s w = (t : Int)))) (by show (hasB _ _ && _) = false; rw [show hasB (orT S (nS S.1.1)) (s : Int) = false from decide_eq_false (fun h => c_82 h.2.2)]; rfl)] at ihs
                  refine x_ic (q := 103) dX7_ask_102 rfl rfl ?_
                  refine x_add (q := 104) dX7_ask_103 rfl ⟨by omega, by omega⟩ ?_
                  refine x_is7 (q := 106) dX7_ask_104 rfl rfl ?_
                  refine x_ii8 (q := 109) dX7_ask_106 rfl rfl ⟨by omega, by omega⟩ ?_
                  refine x_goto (t := 64) dX7_ask_109 rfl ?_
                  first | exact ihs | (rw [Int.add_zero]; exact ihs)
                · skip
                  refine x_al_n (q := 86) dX7_ask_85 rfl rfl ?_
                  refine x_il (q := 88) dX7_ask_86 rfl rfl ?_
                  refine x_il (q := 90) dX7_ask_88 rfl rfl ?_
                  refine x_VI (q := 93) (ci := 7) dX7_ask_90 rfl kX7_ask_149 (m_tag hs hr hmu hv (s := s) f2 (by omega) hsn) rfl rfl (hs _ _ rfl) (by decide) rfl (Nat.le_of_ble_eq_true rfl) ⟨rfl, rfl⟩ ⟨Nat.zero_le _, Nat.zero_le _⟩ ?_
                  rw [Ex_n (by omega) (by omega)]
                  refine x_il (q := 95) dX7_ask_93 rfl rfl ?_
                  refine x_ic_ne (t := 102) (q := 98) dX7_ask_95 rfl rfl (fun c_95 => ?_) (fun c_95 => ?_)
                  · skip
                    rw [cnt_f (f := (fun s => hasB (orT S (nS S.1.1)) s && decide (tT S.1.1 s w = (t : Int)))) (by show (_ && decide _) = false; rw [decide_eq_false c_95]; simp)] at ihs
                    refine x_ic (q := 103) dX7_ask_102 rfl rfl ?_
                    refine x_add (q := 104) dX7_ask_103 rfl ⟨by omega, by omega⟩ ?_
                    refine x_is7 (q := 106) dX7_ask_104 rfl rfl ?_
                    refine x_ii8 (q := 109) dX7_ask_106 rfl rfl ⟨by omega, by omega⟩ ?_
                    refine x_goto (t := 64) dX7_ask_109 rfl ?_
                    first | exact ihs | (rw [Int.add_zero]; exact ihs)
                  · skip
                    rw [cnt_t (f := (fun s => hasB (orT S (nS S.1.1)) s && decide (tT S.1.1 s w = (t : Int)))) (by show (hasB _ _ && decide _) = true; rw [decide_eq_true c_95, show hasB (orT S (nS S.1.1)) (s : Int) = true from decide_eq_true ⟨by omega, by omega, c_82⟩]; rfl)] at ihs
                    refine x_ic (q := 99) dX7_ask_98 rfl rfl ?_
                    refine x_goto (t := 103) dX7_ask_99 rfl ?_
                    refine x_add (q := 104) dX7_ask_103 rfl ⟨by omega, by omega⟩ ?_
                    refine x_is7 (q := 106) dX7_ask_104 rfl rfl ?_
                    refine x_ii8 (q := 109) dX7_ask_106 rfl rfl ⟨by omega, by omega⟩ ?_
                    refine x_goto (t := 64) dX7_ask_109 rfl ?_
                    first | exact ihs | (rw [Int.add_zero]; exact ihs)
  · skip
    have hp2 := (two_bits hor.1 hor.2).mp c_15
    have hG : a_ask S = -9 := by unfold a_ask; rw [if_pos hp2]
    refine x_bi (q := 20) dX7_ask_18 rfl rfl ?_
    exact x_iret dX7_ask_20 rfl rfl (Nat.zero_le _) ⟨by rw [hG], u, rfl, hsm⟩
set_option maxHeartbeats 4000000 in
set_option maxRecDepth 100000 in
theorem m_count (hs : ExtM sh) (hr : RokM rf) (hR : RM S v) (hV : SV S) {k : Int} : Cv g mX7_count [aR 70, aI k] (sh, rf, v) (sP (a_count S k) sh rf v) := by
  have hm := hR.cm
  have hv := hV.1.1
  have hS := nS_rng hv
  have hd := nd_rng hv
  have hq := pw16 hv.2.2.2.1 hv.2.2.2.2
  have hn24 := hV.1.2.1
  obtain ⟨hvB, hp1, hp2, hq1, hq2⟩ := id hv
  obtain ⟨m, hmq⟩ : ∃ m : Nat, (m : Int) = 2 ^ S.1.1.2.2.2.2.toNat := ⟨2 ^ S.1.1.2.2.2.2.toNat, by simp⟩
  have hnd : nd S.1.1 = 2 ^ S.1.1.2.2.2.1.toNat := rfl
  obtain ⟨a1, a2, a3, ⟨b1, b2, b3, b4⟩, ⟨c1, c2⟩, ⟨d1, d2⟩⟩ := id hR
  refine x_entry (ls := [some (aR 70), some (aI k)]) rfl rfl (Nat.le_of_ble_eq_true rfl) ?_
  refine x_il_n (q := 1) dX7_count_0 rfl rfl ?_
  refine x_i2l (q := 2) dX7_count_1 rfl ?_
  refine x_lc (q := 3) (z := 0) dX7_count_2 rfl rfl ?_
  refine x_ldc2 (q := 6) dX7_count_3 rfl q936 rfl ?_
  refine x_SI (q := 9) dX7_count_6 rfl kX7_count_70 (m_in) rfl rfl (Nat.le_of_ble_eq_true rfl) ⟨rfl, rfl⟩ ⟨Nat.zero_le _, Nat.zero_le _⟩ ?_
  refine x_if_ne (t := 14) (q := 12) dX7_count_9 rfl rfl (fun c_9 => ?_) (fun c_9 => ?_)
  · skip
    have e_9 := of_decide_eq_true (b2i_n0.mp c_9)
    refine x_al_n (q := 15) dX7_count_14 rfl rfl ?_
    refine x_V (q := 18) (ci := 7) dX7_count_15 rfl kX7_count_56 (m_finds hs hr hm hv) rfl rfl (hs _ _ rfl) (by decide) rfl (Nat.le_of_ble_eq_true rfl) ⟨rfl, rfl⟩ ⟨Nat.zero_le _, Nat.zero_le _⟩ (fun r1 h1 hp => ?_)
    obtain ⟨rfl, u, rfl, hF⟩ := hp
    have hsm := hF.sm
    have hRu := hsm.rm hR
    have hmu := hRu.cm
    have hQ := hF.fq
    obtain ⟨f1, f2, f3, f4⟩ := id hQ
    have f5 := hF.2.2.2.2.1
    obtain ⟨e1, e2, e3, ⟨g1, g2, g3, g4⟩, ⟨h1, h2⟩, ⟨i1, i2⟩⟩ := id hRu
    refine x_il_n (q := 19) dX7_count_18 rfl rfl ?_
    rcases (show k = 0 ∨ k = 1 ∨ k = 2 ∨ k = 3 ∨ k = 4 ∨ k = 5 ∨ k = 6 ∨ k = 7 ∨ k = 8 ∨ k = 9 ∨ k = 10 ∨ k = 11 ∨ k = 12 by omega) with rfl | rfl | rfl | rfl | rfl | rfl | rfl | rfl | rfl | rfl | rfl | rfl | rfl
    · refine x_tabI (t := 80) (off := 61) dX7_count_19 (by decide) (by decide) rfl rfl ?_
      refine x_al_n (q := 81) dX7_count_80 rfl rfl ?_
      refine x_VI (q := 84) (ci := 7) dX7_count_81 rfl kX7_count_82 (m_states hs hr hmu hv) rfl rfl (hs _ _ rfl) (by decide) rfl (Nat.le_of_ble_eq_true rfl) ⟨rfl, rfl⟩ ⟨Nat.zero_le _, Nat.zero_le _⟩ ?_
      first | exact x_iret dX7_count_84 rfl rfl (Nat.zero_le _) ⟨rfl, u, rfl, hsm⟩ | exact x_iret dX7_count_84 rfl rfl (Nat.zero_le _) ⟨rfl, w0, rfl, hsm2⟩
    · refine x_tabI (t := 85) (off := 66) dX7_count_19 (by decide) (by decide) rfl rfl ?_
      refine x_al_n (q := 86) dX7_count_85 rfl rfl ?_
      refine x_VI (q := 89) (ci := 7) dX7_count_86 rfl kX7_count_163 (m_start hs hr hmu hv) rfl rfl (hs _ _ rfl) (by decide) rfl (Nat.le_of_ble_eq_true rfl) ⟨rfl, rfl⟩ ⟨Nat.zero_le _, Nat.zero_le _⟩ ?_
      first | exact x_iret dX7_count_89 rfl rfl (Nat.zero_le _) ⟨rfl, u, rfl, hsm⟩ | exact x_iret dX7_count_89 rfl rfl (Nat.zero_le _) ⟨rfl, w0, rfl, hsm2⟩
    · refine x_tabI (t := 90) (off := 71) dX7_count_19 (by decide) (by decide) rfl rfl ?_
      refine x_al_n (q := 91) dX7_count_90 rfl rfl ?_
      refine x_getR (q := 94) (o := some (71)) dX7_count_91 rfl fX7_7 (hs _ _ rfl) rfl (hr _ _ rfl) ?_
      refine x_ic (q := 95) dX7_count_94 rfl rfl ?_
      refine x_ialde (q := 96) (z := S.1.1.2.2.2.1) dX7_count_95 rfl (hs _ _ rfl) (by omega) (by omega) (hmu.2.2.2.1) ?_
      first | exact x_iret dX7_count_96 rfl rfl (Nat.zero_le _) ⟨rfl, u, rfl, hsm⟩ | exact x_iret dX7_count_96 rfl rfl (Nat.zero_le _) ⟨rfl, w0, rfl, hsm2⟩
    · refine x_tabI (t := 97) (off := 78) dX7_count_19 (by decide) (by decide) rfl rfl ?_
      refine x_al_n (q := 98) dX7_count_97 rfl rfl ?_
      refine x_getR (q := 101) (o := some (71)) dX7_count_98 rfl fX7_7 (hs _ _ rfl) rfl (hr _ _ rfl) ?_
      refine x_ic (q := 102) dX7_count_101 rfl rfl ?_
      refine x_ialde (q := 103) (z := S.1.1.2.2.2.2) dX7_count_102 rfl (hs _ _ rfl) (by omega) (by omega) (hmu.2.2.2.2) ?_
      first | exact x_iret dX7_count_103 rfl rfl (Nat.zero_le _) ⟨rfl, u, rfl, hsm⟩ | exact x_iret dX7_count_103 rfl rfl (Nat.zero_le _) ⟨rfl, w0, rfl, hsm2⟩
    · refine x_tabI (t := 104) (off := 85) dX7_count_19 (by decide) (by decide) rfl rfl ?_
      refine x_al_n (q := 105) dX7_count_104 rfl rfl ?_
      refine x_getIe (q := 108) (z := mk (Gd S.1.1) (nS S.1.1)) dX7_count_105 rfl fX7_92 (hs _ _ rfl) rfl (f3) ?_
      first | exact x_iret dX7_count_108 rfl rfl (Nat.zero_le _) ⟨rfl, u, rfl, hsm⟩ | exact x_iret dX7_count_108 rfl rfl (Nat.zero_le _) ⟨rfl, w0, rfl, hsm2⟩
    · refine x_tabI (t := 109) (off := 90) dX7_count_19 (by decide) (by decide) rfl rfl ?_
      refine x_al_n (q := 110) dX7_count_109 rfl rfl ?_
      refine x_getIe (q := 113) (z := Bg S.1.1) dX7_count_110 rfl fX7_59 (hs _ _ rfl) rfl (f4) ?_
      first | exact x_iret dX7_count_113 rfl rfl (Nat.zero_le _) ⟨rfl, u, rfl, hsm⟩ | exact x_iret dX7_count_113 rfl rfl (Nat.zero_le _) ⟨rfl, w0, rfl, hsm2⟩
    · refine x_tabI (t := 114) (off := 95) dX7_count_19 (by decide) (by decide) rfl rfl ?_
      refine x_al_n (q := 115) dX7_count_114 rfl rfl ?_
      refine x_getR (q := 118) (o := some (71)) dX7_count_115 rfl fX7_7 (hs _ _ rfl) rfl (hr _ _ rfl) ?_
      refine x_bi (q := 120) dX7_count_118 rfl rfl ?_
      refine x_ialde (q := 121) (z := S.1.2.2.2.2.2) dX7_count_120 rfl (hs _ _ rfl) (by omega) (by omega) ((by exact e1.2.2.1)) ?_
      first | exact x_iret dX7_count_121 rfl rfl (Nat.zero_le _) ⟨rfl, u, rfl, hsm⟩ | exact x_iret dX7_count_121 rfl rfl (Nat.zero_le _) ⟨rfl, w0, rfl, hsm2⟩
    · refine x_tabI (t := 122) (off := 103) dX7_count_19 (by decide) (by decide) rfl rfl ?_
      refine x_al_n (q := 123) dX7_count_122 rfl rfl ?_
      refine x_V (q := 126) (ci := 7) dX7_count_123 rfl kX7_count_176 (m_window hs hr hmu hv hQ) rfl rfl (hs _ _ rfl) (by decide) rfl (Nat.le_of_ble_eq_true rfl) ⟨rfl, rfl⟩ ⟨Nat.zero_le _, Nat.zero_le _⟩ (fun r1 h1 hp => ?_)
      obtain ⟨rfl, w0, rfl, hw2⟩ := hp
      have hsm2 : Sm v w0 := hsm.trans (Sm.of (fun d h1 h2 => hw2 d (by omega)) (by rw [hw2 70 (by decide)]) (by rw [hw2 70 (by decide)]) (by rw [hw2 70 (by decide)]))
      first | exact x_iret dX7_count_126 rfl rfl (Nat.zero_le _) ⟨rfl, u, rfl, hsm⟩ | exact x_iret dX7_count_126 rfl rfl (Nat.zero_le _) ⟨rfl, w0, rfl, hsm2⟩
    · refine x_tabI (t := 127) (off := 108) dX7_count_19 (by decide) (by decide) rfl rfl ?_
      refine x_al_n (q := 128) dX7_count_127 rfl rfl ?_
      refine x_getR (q := 131) (o := some (71)) dX7_count_128 rfl fX7_7 (hs _ _ rfl) rfl (hr _ _ rfl) ?_
      refine x_ic (q := 132) dX7_count_131 rfl rfl ?_
      refine x_ialde (q := 133) (z := (S.1.2.1 : Int)) dX7_count_132 rfl (hs _ _ rfl) (by omega) (by omega) ((by exact e1.2.1)) ?_
      first | exact x_iret dX7_count_133 rfl rfl (Nat.zero_le _) ⟨rfl, u, rfl, hsm⟩ | exact x_iret dX7_count_133 rfl rfl (Nat.zero_le _) ⟨rfl, w0, rfl, hsm2⟩
    · refine x_tabI (t := 134) (off := 115) dX7_count_19 (by decide) (by decide) rfl rfl ?_
      refine x_al_n (q := 135) dX7_count_134 rfl rfl ?_
      refine x_VI (q := 138) (ci := 7) dX7_count_135 rfl kX7_count_193 (m_otherBits hs hr hRu hV) rfl rfl (hs _ _ rfl) (by decide) rfl (Nat.le_of_ble_eq_true rfl) ⟨rfl, rfl⟩ ⟨Nat.zero_le _, Nat.zero_le _⟩ ?_
      first | exact x_iret dX7_count_138 rfl rfl (Nat.zero_le _) ⟨rfl, u, rfl, hsm⟩ | exact x_iret dX7_count_138 rfl rfl (Nat.zero_le _) ⟨rfl, w0, rfl, hsm2⟩
    · refine x_tabI (t := 139) (off := 120) dX7_count_19 (by decide) (by decide) rfl rfl ?_
      refine x_al_n (q := 140) dX7_count_139 rfl rfl ?_
      refine x_getIe (q := 143) (z := (S.2.2.2.1.1 : Int)) dX7_count_140 rfl fX7_143 (hs _ _ rfl) rfl (h1) ?_
      first | exact x_iret dX7_count_143 rfl rfl (Nat.zero_le _) ⟨rfl, u, rfl, hsm⟩ | exact x_iret dX7_count_143 rfl rfl (Nat.zero_le _) ⟨rfl, w0, rfl, hsm2⟩
    · refine x_tabI (t := 144) (off := 125) dX7_count_19 (by decide) (by decide) rfl rfl ?_
      refine x_al_n (q := 145) dX7_count_144 rfl rfl ?_
      refine x_getIe (q := 148) (z := (S.2.2.2.2.1 : Int)) dX7_count_145 rfl fX7_103 (hs _ _ rfl) rfl (i1) ?_
      first | exact x_iret dX7_count_148 rfl rfl (Nat.zero_le _) ⟨rfl, u, rfl, hsm⟩ | exact x_iret dX7_count_148 rfl rfl (Nat.zero_le _) ⟨rfl, w0, rfl, hsm2⟩
    · refine x_tabO (t := 149) dX7_count_19 (by decide) rfl ?_
      refine x_al_n (q := 150) dX7_count_149 rfl rfl ?_
      refine x_getIe (q := 153) (z := (S.2.1.length : Int)) dX7_count_150 rfl fX7_63 (hs _ _ rfl) rfl (e2) ?_
      first | exact x_iret dX7_count_153 rfl rfl (Nat.zero_le _) ⟨rfl, u, rfl, hsm⟩ | exact x_iret dX7_count_153 rfl rfl (Nat.zero_le _) ⟨rfl, w0, rfl, hsm2⟩
  · skip
    have e_9 := of_decide_eq_false (b2i_0.mp c_9)
    refine x_ic (q := 13) dX7_count_12 rfl rfl ?_
    exact x_iret dX7_count_13 rfl rfl (Nat.zero_le _) ⟨by unfold a_count; repeat rw [if_neg (by omega)], v, rfl, Sm.refl v⟩
end MOK

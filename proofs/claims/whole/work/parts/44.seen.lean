/-! ===== the Model: what was seen; the line read by states ===== -/
theorem rdS_rng {c : Cfg} (hv : Vld c) {f : Nat → Int} : ∀ k, (rdS (tT c) (eT c) (Bg c) f k).1 = -9 ∨ (0 ≤ (rdS (tT c) (eT c) (Bg c) f k).1 ∧ (rdS (tT c) (eT c) (Bg c) f k).1 < (nS c : Int))
  | 0 => by
    show Bg c = -9 ∨ (0 ≤ Bg c ∧ Bg c < (nS c : Int))
    rcases HV_Bg hv with h | ⟨-, s, h1, h2, h3⟩
    · exact .inl h.2
    · right; omega
  | k + 1 => by
    have ih := rdS_rng hv (f := f) k
    have e0 : (rdS (tT c) (eT c) (Bg c) f (k + 1)).1 = if Ex (tT c) (rdS (tT c) (eT c) (Bg c) f k).1 (f k) = -9 then (rdS (tT c) (eT c) (Bg c) f k).1 else Ex (eT c) (rdS (tT c) (eT c) (Bg c) f k).1 (f k) := rfl
    rw [e0]
    split
    · exact ih
    · rename_i hne
      obtain ⟨a1, a2, a3, a4, a5⟩ := Ex_ne hne
      rw [a5] at hne
      obtain ⟨-, -, -, -, -, m, m1, m2, m3⟩ := tT_good hv hne
      have e : Ex (eT c) (rdS (tT c) (eT c) (Bg c) f k).1 (f k) = (m : Int) := by unfold Ex; rw [if_pos ⟨a1, a2, a3, a4⟩]; exact m3
      rw [e]; right; omega
theorem Ex_9 (E : Nat → Nat → Int) (w : Int) : Ex E (-9) w = -9 := by unfold Ex; rw [if_neg (by omega)]
theorem Ex_lead {c : Cfg} (hv : Vld c) {x w : Int} (h : ¬ Ex (tT c) x w = -9) : 0 ≤ Ex (eT c) x w ∧ Ex (eT c) x w < (nS c : Int) ∧ Gd c (Ex (eT c) x w).toNat = true := by
  obtain ⟨a1, a2, a3, a4, a5⟩ := Ex_ne h
  rw [a5] at h
  obtain ⟨-, -, -, -, -, m, m1, m2, m3⟩ := tT_good hv h
  have e : Ex (eT c) x w = (m : Int) := by unfold Ex; rw [if_pos ⟨a1, a2, a3, a4⟩]; exact m3
  rw [e]
  exact ⟨by omega, by omega, by rw [Int.toNat_natCast]; exact m2⟩
theorem pcnt_h {x : Int} (h0 : 0 ≤ x) (h1 : x < 128) : pcnt x = x % 2 + pcnt (x / 2) := by unfold pcnt; omega
theorem tbS_rng (H : Hd) : ∀ n : Nat, 0 ≤ tbS H n ∧ tbS H n ≤ 7 * n
  | 0 => by show (0 : Int) ≤ 0 ∧ (0 : Int) ≤ 7 * ((0 : Nat) : Int); omega
  | n + 1 => by
    have := tbS_rng H n
    have := pcnt_rng (x := ((H.2.2.1 n).toNat ^^^ (H.2.2.2.1 n).toNat : Nat))
    unfold tbS
    omega
section MOC
variable {g : GL} {sh : List (Nat × Nat)} {rf : Nat → Nat → Option Nat} {v : Nat → Nat → Int} {S : St}

set_option maxHeartbeats 4000000 in
set_option maxRecDepth 100000 in
theorem m_seen0 (hs : ExtM sh) (hr : RokM rf) (hR : RM S v) (hV : SV S) (hQ : FQ v S.1.1)  : Cv g mX7_statesBySeen [aR 70, aI 0] (sh, rf, v) (retI (mk (fun s => !decide (seT S s = -9)) (nS S.1.1)) (sh, rf, v)) := by
  have hm := hR.cm
  have hv := hV.1.1
  have hS := nS_rng hv
  have hd := nd_rng hv
  have hq := pw16 hv.2.2.2.1 hv.2.2.2.2
  have hn24 := hV.1.2.1
  obtain ⟨hvB, hp1, hp2, hq1, hq2⟩ := id hv
  obtain ⟨m, hmq⟩ : ∃ m : Nat, (m : Int) = 2 ^ S.1.1.2.2.2.2.toNat := ⟨2 ^ S.1.1.2.2.2.2.toNat, by simp⟩
  have hnd : nd S.1.1 = 2 ^ S.1.1.2.2.2.1.toNat := rfl
  obtain ⟨a1, a2, a3, ⟨b1, b2, b3, b4⟩, ⟨c1, c2⟩, ⟨d1, d2⟩⟩ := id hR
  obtain ⟨f1, f2, f3, f4⟩ := id hQ
  have hmk := mk_rng (Gd S.1.1) (nS S.1.1)
  have hs6 := hV.2.2.2.2.2.1.1
  have hsr := hV.2.2.2.2.2.1.2
  refine x_entry (ls := [some (aR 70), some (aI 0), none, none, none, none]) rfl rfl (Nat.le_of_ble_eq_true rfl) ?_
  refine x_ic (q := 1) dX7_statesBySeen_0 rfl rfl ?_
  refine x_is2 (q := 2) dX7_statesBySeen_1 rfl rfl ?_
  refine x_ic (q := 3) dX7_statesBySeen_2 rfl rfl ?_
  refine x_is3 (q := 4) dX7_statesBySeen_3 rfl rfl ?_
  refine x_up (S := fun s => ∀ o4 o5 : Option AV, Wv g mX7_statesBySeen 0 0 4 [some (aR 70), some (aI 0), some (aI (mk (fun s => !decide (seT S s = -9)) s)), some (aI (s : Int)), o4, o5] [] (sh, rf, v) (retI (mk (fun s => !decide (seT S s = -9)) (nS S.1.1)) (sh, rf, v))) (nS S.1.1) ?_ ?_ 0 (Nat.zero_le _) none none
  · intro o4 o5
    refine x_il_n (q := 5) dX7_statesBySeen_4 rfl rfl ?_
    refine x_al_n (q := 6) dX7_statesBySeen_5 rfl rfl ?_
    refine x_VI (q := 9) (ci := 7) dX7_statesBySeen_6 rfl kX7_statesBySeen_82 (m_states hs hr hm hv) rfl rfl (hs _ _ rfl) (by decide) rfl (Nat.le_of_ble_eq_true rfl) ⟨rfl, rfl⟩ ⟨Nat.zero_le _, Nat.zero_le _⟩ ?_
    refine x_ic_ge (t := 127) (q := 12) dX7_statesBySeen_9 rfl rfl (fun c_9 => ?_) (fun c_9 => ?_)
    · skip
      refine x_il_n (q := 128) dX7_statesBySeen_127 rfl rfl ?_
      exact x_iret dX7_statesBySeen_128 rfl rfl (Nat.zero_le _) (retI_mk (by rfl))
    · skip
      exact absurd (Int.le_refl _) c_9
  · intro s hsn ih o4 o5
    have hse := seT_rng hV.1.1 hsn
    have hml := mk_rng (fun s => !decide (seT S s = -9)) s
    have hor := orT_rng hV.1.1 s (by omega)
    have hend : ∀ o5 : Option AV, Wv g mX7_statesBySeen 0 0 95 [some (aR 70), some (aI 0), some (aI (mk (fun s => !decide (seT S s = -9)) s)), some (aI (s : Int)), some (aI (seT S s)), o5] [] (sh, rf, v) (retI (mk (fun s => !decide (seT S s = -9)) (nS S.1.1)) (sh, rf, v)) := by
      intro o5
      refine x_il_n (q := 96) dX7_statesBySeen_95 rfl rfl ?_
      refine x_il (q := 98) dX7_statesBySeen_96 rfl rfl ?_
      refine x_bi (q := 100) dX7_statesBySeen_98 rfl rfl ?_
      refine x_ic_ne (t := 107) (q := 103) dX7_statesBySeen_100 rfl rfl (fun c_100 => ?_) (fun c_100 => ?_)
      · skip
        rw [mk_s, if_pos (by simp [c_100])] at ih
        refine x_ic (q := 108) dX7_statesBySeen_107 rfl rfl ?_
        refine x_il_n (q := 109) dX7_statesBySeen_108 rfl rfl ?_
        refine x_if_eq (t := 117) (q := 112) dX7_statesBySeen_109 rfl rfl (fun c_109 => ?_) (fun c_109 => ?_)
        · skip
          refine x_il_n (q := 118) dX7_statesBySeen_117 rfl rfl ?_
          refine x_pow (q := 119) dX7_statesBySeen_118 rfl (by omega) (by omega) ?_
          rw [Int.toNat_natCast]
          first
          | refine x_orP (q := 120) dX7_statesBySeen_119 rfl hml.1 hml.2 ?_
          | (refine x_or (q := 120) dX7_statesBySeen_119 rfl hml.1 (by decide) ?_; rw [show (((mk (fun s => !decide (seT S s = -9)) s).toNat ||| (0 : Int).toNat : Nat) : Int) = mk (fun s => !decide (seT S s = -9)) s by rw [show (0 : Int).toNat = 0 from rfl, Nat.or_zero]; omega])
          refine x_is2 (q := 121) dX7_statesBySeen_120 rfl rfl ?_
          refine x_ii3 (q := 124) dX7_statesBySeen_121 rfl rfl ⟨by omega, by omega⟩ ?_
          refine x_goto (t := 4) dX7_statesBySeen_124 rfl ?_
          exact ih _ _
        · skip
          exact absurd c_109 (by decide)
      · skip
        rw [mk_s, if_neg (by simp [c_100]), Int.add_zero] at ih
        refine x_ic (q := 104) dX7_statesBySeen_103 rfl rfl ?_
        refine x_goto (t := 119) dX7_statesBySeen_104 rfl ?_
        first
        | refine x_orP (q := 120) dX7_statesBySeen_119 rfl hml.1 hml.2 ?_
        | (refine x_or (q := 120) dX7_statesBySeen_119 rfl hml.1 (by decide) ?_; rw [show (((mk (fun s => !decide (seT S s = -9)) s).toNat ||| (0 : Int).toNat : Nat) : Int) = mk (fun s => !decide (seT S s = -9)) s by rw [show (0 : Int).toNat = 0 from rfl, Nat.or_zero]; omega])
        refine x_is2 (q := 121) dX7_statesBySeen_120 rfl rfl ?_
        refine x_ii3 (q := 124) dX7_statesBySeen_121 rfl rfl ⟨by omega, by omega⟩ ?_
        refine x_goto (t := 4) dX7_statesBySeen_124 rfl ?_
        exact ih _ _
    have key : ∀ (k i : Nat) (x : Int), i + k = S.2.2.2.1.1 → (x = -9 ∨ (0 ≤ x ∧ x < (nS S.1.1 : Int))) → (if x = -9 then -9 else FW (tT S.1.1) (eT S.1.1) S.2.2.2.1.2 k i x) = seT S s → Wv g mX7_statesBySeen 0 0 35 [some (aR 70), some (aI 0), some (aI (mk (fun s => !decide (seT S s = -9)) s)), some (aI (s : Int)), some (aI x), some (aI (i : Int))] [] (sh, rf, v) (retI (mk (fun s => !decide (seT S s = -9)) (nS S.1.1)) (sh, rf, v)) := by
      intro k
      induction k with
      | zero =>
        intro i x hi hx he
        have he : x = seT S s := by rw [← he]; split; assumption; rfl
        subst he
        refine x_il (q := 37) dX7_statesBySeen_35 rfl rfl ?_
        refine x_al_n (q := 38) dX7_statesBySeen_37 rfl rfl ?_
        refine x_getIe (q := 41) (z := (S.2.2.2.1.1 : Int)) dX7_statesBySeen_38 rfl fX7_143 (hs _ _ rfl) rfl (c1) ?_
        refine x_ic_ge (t := 95) (q := 44) dX7_statesBySeen_41 rfl rfl (fun c_41 => ?_) (fun c_41 => ?_)
        · skip
          exact hend _
        · skip
          exact absurd (by omega) c_41
      | succ k ihk =>
        intro i x hi hx he
        have hfi := hsr i (by omega)
        refine x_il (q := 37) dX7_statesBySeen_35 rfl rfl ?_
        refine x_al_n (q := 38) dX7_statesBySeen_37 rfl rfl ?_
        refine x_getIe (q := 41) (z := (S.2.2.2.1.1 : Int)) dX7_statesBySeen_38 rfl fX7_143 (hs _ _ rfl) rfl (c1) ?_
        refine x_ic_ge (t := 95) (q := 44) dX7_statesBySeen_41 rfl rfl (fun c_41 => ?_) (fun c_41 => ?_)
        · skip
          exact absurd c_41 (by omega)
        · skip
          refine x_il (q := 46) dX7_statesBySeen_44 rfl rfl ?_
          refine x_bi (q := 48) dX7_statesBySeen_46 rfl rfl ?_
          refine x_ic_eq (t := 95) (q := 51) dX7_statesBySeen_48 rfl rfl (fun c_48 => ?_) (fun c_48 => ?_)
          · skip
            rw [if_pos c_48] at he
            have hx9 : x = seT S s := by omega
            rw [hx9]
            exact hend _
          · skip
            rw [if_neg c_48] at he
            obtain ⟨x, rfl⟩ := Int.eq_ofNat_of_zero_le (show 0 ≤ x by omega)
            refine x_al_n (q := 52) dX7_statesBySeen_51 rfl rfl ?_
            refine x_il (q := 54) dX7_statesBySeen_52 rfl rfl ?_
            refine x_al_n (q := 55) dX7_statesBySeen_54 rfl rfl ?_
            refine x_getR (q := 58) (o := some (75)) dX7_statesBySeen_55 rfl fX7_23 (hs _ _ rfl) rfl (hr _ _ rfl) ?_
            refine x_il (q := 60) dX7_statesBySeen_58 rfl rfl ?_
            refine x_ialde (q := 61) (z := S.2.2.2.1.2 i) dX7_statesBySeen_60 rfl (hs _ _ rfl) (by omega) (by omega) (by rw [Int.toNat_natCast]; exact c2 i (by omega)) ?_
            refine x_VI (q := 64) (ci := 7) dX7_statesBySeen_61 rfl kX7_statesBySeen_149 (m_tag hs hr hm hv (s := x) f2 hfi.1 (by omega)) rfl rfl (hs _ _ rfl) (by decide) rfl (Nat.le_of_ble_eq_true rfl) ⟨rfl, rfl⟩ ⟨Nat.zero_le _, Nat.zero_le _⟩ ?_
            refine x_bi (q := 66) dX7_statesBySeen_64 rfl rfl ?_
            refine x_ic_ne (t := 74) (q := 69) dX7_statesBySeen_66 rfl rfl (fun c_66 => ?_) (fun c_66 => ?_)
            · skip
              have hlx := Ex_lead hv c_66
              have ihk := ihk (i + 1) (Ex (eT S.1.1) (x : Int) (S.2.2.2.1.2 i)) (by omega) (.inr ⟨hlx.1, hlx.2.1⟩) (by rw [if_neg (by omega), ← he]; show _ = (if _ then _ else _); rw [if_neg c_66])
              refine x_al_n (q := 75) dX7_statesBySeen_74 rfl rfl ?_
              refine x_il (q := 77) dX7_statesBySeen_75 rfl rfl ?_
              refine x_al_n (q := 78) dX7_statesBySeen_77 rfl rfl ?_
              refine x_getR (q := 81) (o := some (75)) dX7_statesBySeen_78 rfl fX7_23 (hs _ _ rfl) rfl (hr _ _ rfl) ?_
              refine x_il (q := 83) dX7_statesBySeen_81 rfl rfl ?_
              refine x_ialde (q := 84) (z := S.2.2.2.1.2 i) dX7_statesBySeen_83 rfl (hs _ _ rfl) (by omega) (by omega) (by rw [Int.toNat_natCast]; exact c2 i (by omega)) ?_
              refine x_VI (q := 87) (ci := 7) dX7_statesBySeen_84 rfl kX7_statesBySeen_89 (m_lead hs hr hm hv (s := x) f1 hfi.1 (by omega)) rfl rfl (hs _ _ rfl) (by decide) rfl (Nat.le_of_ble_eq_true rfl) ⟨rfl, rfl⟩ ⟨Nat.zero_le _, Nat.zero_le _⟩ ?_
              refine x_is4 (q := 89) dX7_statesBySeen_87 rfl rfl ?_
              refine x_ii5 (q := 92) dX7_statesBySeen_89 rfl rfl ⟨by omega, by omega⟩ ?_
              refine x_goto (t := 35) dX7_statesBySeen_92 rfl ?_
              exact ihk
            · skip
              have he2 : (-9 : Int) = seT S s := by rw [← he]; show _ = (if _ then _ else _); rw [if_pos c_66]
              have ihk := ihk (i + 1) (-9) (by omega) (.inl rfl) (by rw [if_pos rfl]; exact he2)
              refine x_bi (q := 71) dX7_statesBySeen_69 rfl rfl ?_
              refine x_goto (t := 87) dX7_statesBySeen_71 rfl ?_
              refine x_is4 (q := 89) dX7_statesBySeen_87 rfl rfl ?_
              refine x_ii5 (q := 92) dX7_statesBySeen_89 rfl rfl ⟨by omega, by omega⟩ ?_
              refine x_goto (t := 35) dX7_statesBySeen_92 rfl ?_
              exact ihk
    refine x_il_n (q := 5) dX7_statesBySeen_4 rfl rfl ?_
    refine x_al_n (q := 6) dX7_statesBySeen_5 rfl rfl ?_
    refine x_VI (q := 9) (ci := 7) dX7_statesBySeen_6 rfl kX7_statesBySeen_82 (m_states hs hr hm hv) rfl rfl (hs _ _ rfl) (by decide) rfl (Nat.le_of_ble_eq_true rfl) ⟨rfl, rfl⟩ ⟨Nat.zero_le _, Nat.zero_le _⟩ ?_
    refine x_ic_ge (t := 127) (q := 12) dX7_statesBySeen_9 rfl rfl (fun c_9 => ?_) (fun c_9 => ?_)
    · skip
      exact absurd c_9 (by omega)
    · skip
      refine x_al_n (q := 13) dX7_statesBySeen_12 rfl rfl ?_
      refine x_getIe (q := 16) (z := mk (Gd S.1.1) (nS S.1.1)) dX7_statesBySeen_13 rfl fX7_92 (hs _ _ rfl) rfl (f3) ?_
      refine x_il_n (q := 17) dX7_statesBySeen_16 rfl rfl ?_
      refine x_shr (q := 18) dX7_statesBySeen_17 rfl (by omega) (by omega) (by omega) ?_
      refine x_ic (q := 19) dX7_statesBySeen_18 rfl rfl ?_
      refine x_and1 (q := 20) dX7_statesBySeen_19 rfl (by first | exact nn_dv (by omega) | omega) ?_
      refine x_ic (q := 21) dX7_statesBySeen_20 rfl rfl ?_
      refine x_ic_ne (t := 28) (q := 24) dX7_statesBySeen_21 rfl rfl (fun c_21 => ?_) (fun c_21 => ?_)
      · skip
        have hsb : seT S s = -9 := by unfold seT; rw [if_neg (by rw [has_mk hS.2.1, inS_f (by omega) (by omega) c_21]; decide)]
        have h9 := key S.2.2.2.1.1 0 (-9) (by omega) (.inl rfl) (by rw [if_pos rfl]; exact hsb.symm)
        refine x_bi (q := 30) dX7_statesBySeen_28 rfl rfl ?_
        refine x_is4 (q := 32) dX7_statesBySeen_30 rfl rfl ?_
        refine x_ic (q := 33) dX7_statesBySeen_32 rfl rfl ?_
        refine x_is5 (q := 35) dX7_statesBySeen_33 rfl rfl ?_
        exact h9
      · skip
        have hsb : seT S s = FW (tT S.1.1) (eT S.1.1) S.2.2.2.1.2 S.2.2.2.1.1 0 s := by unfold seT; rw [if_pos (by rw [has_mk hS.2.1, inS_t (by omega) (by omega) c_21])]
        have h9 := key S.2.2.2.1.1 0 (s : Int) (by omega) (.inr ⟨by omega, by omega⟩) (by rw [if_neg (by omega)]; exact hsb.symm)
        refine x_il_n (q := 25) dX7_statesBySeen_24 rfl rfl ?_
        refine x_goto (t := 30) dX7_statesBySeen_25 rfl ?_
        refine x_is4 (q := 32) dX7_statesBySeen_30 rfl rfl ?_
        refine x_ic (q := 33) dX7_statesBySeen_32 rfl rfl ?_
        refine x_is5 (q := 35) dX7_statesBySeen_33 rfl rfl ?_
        exact h9
set_option maxHeartbeats 4000000 in
set_option maxRecDepth 100000 in
theorem m_seen1 (hs : ExtM sh) (hr : RokM rf) (hR : RM S v) (hV : SV S) (hQ : FQ v S.1.1)  : Cv g mX7_statesBySeen [aR 70, aI 1] (sh, rf, v) (retI (orT S (nS S.1.1)) (sh, rf, v)) := by
  have hm := hR.cm
  have hv := hV.1.1
  have hS := nS_rng hv
  have hd := nd_rng hv
  have hq := pw16 hv.2.2.2.1 hv.2.2.2.2
  have hn24 := hV.1.2.1
  obtain ⟨hvB, hp1, hp2, hq1, hq2⟩ := id hv
  obtain ⟨m, hmq⟩ : ∃ m : Nat, (m : Int) = 2 ^ S.1.1.2.2.2.2.toNat := ⟨2 ^ S.1.1.2.2.2.2.toNat, by simp⟩
  have hnd : nd S.1.1 = 2 ^ S.1.1.2.2.2.1.toNat := rfl
  obtain ⟨a1, a2, a3, ⟨b1, b2, b3, b4⟩, ⟨c1, c2⟩, ⟨d1, d2⟩⟩ := id hR
  obtain ⟨f1, f2, f3, f4⟩ := id hQ
  have hmk := mk_rng (Gd S.1.1) (nS S.1.1)
  have hs6 := hV.2.2.2.2.2.1.1
  have hsr := hV.2.2.2.2.2.1.2
  refine x_entry (ls := [some (aR 70), some (aI 1), none, none, none, none]) rfl rfl (Nat.le_of_ble_eq_true rfl) ?_
  refine x_ic (q := 1) dX7_statesBySeen_0 rfl rfl ?_
  refine x_is2 (q := 2) dX7_statesBySeen_1 rfl rfl ?_
  refine x_ic (q := 3) dX7_statesBySeen_2 rfl rfl ?_
  refine x_is3 (q := 4) dX7_statesBySeen_3 rfl rfl ?_
  refine x_up (S := fun s => ∀ o4 o5 : Option AV, Wv g mX7_statesBySeen 0 0 4 [some (aR 70), some (aI 1), some (aI (orT S s)), some (aI (s : Int)), o4, o5] [] (sh, rf, v) (retI (orT S (nS S.1.1)) (sh, rf, v))) (nS S.1.1) ?_ ?_ 0 (Nat.zero_le _) none none
  · intro o4 o5
    refine x_il_n (q := 5) dX7_statesBySeen_4 rfl rfl ?_
    refine x_al_n (q := 6) dX7_statesBySeen_5 rfl rfl ?_
    refine x_VI (q := 9) (ci := 7) dX7_statesBySeen_6 rfl kX7_statesBySeen_82 (m_states hs hr hm hv) rfl rfl (hs _ _ rfl) (by decide) rfl (Nat.le_of_ble_eq_true rfl) ⟨rfl, rfl⟩ ⟨Nat.zero_le _, Nat.zero_le _⟩ ?_
    refine x_ic_ge (t := 127) (q := 12) dX7_statesBySeen_9 rfl rfl (fun c_9 => ?_) (fun c_9 => ?_)
    · skip
      refine x_il_n (q := 128) dX7_statesBySeen_127 rfl rfl ?_
      exact x_iret dX7_statesBySeen_128 rfl rfl (Nat.zero_le _) (retI_mk (by rfl))
    · skip
      exact absurd (Int.le_refl _) c_9
  · intro s hsn ih o4 o5
    have hse := seT_rng hV.1.1 hsn
    have hml := mk_rng (fun s => !decide (seT S s = -9)) s
    have hor := orT_rng hV.1.1 s (by omega)
    have hend : ∀ o5 : Option AV, Wv g mX7_statesBySeen 0 0 95 [some (aR 70), some (aI 1), some (aI (orT S s)), some (aI (s : Int)), some (aI (seT S s)), o5] [] (sh, rf, v) (retI (orT S (nS S.1.1)) (sh, rf, v)) := by
      intro o5
      refine x_il_n (q := 96) dX7_statesBySeen_95 rfl rfl ?_
      refine x_il (q := 98) dX7_statesBySeen_96 rfl rfl ?_
      refine x_bi (q := 100) dX7_statesBySeen_98 rfl rfl ?_
      refine x_ic_ne (t := 107) (q := 103) dX7_statesBySeen_100 rfl rfl (fun c_100 => ?_) (fun c_100 => ?_)
      · skip
        have hO : orT S (s + 1) = (((orT S s).toNat ||| ((2 : Int) ^ (seT S s).toNat).toNat : Nat) : Int) := by show (if _ then _ else _) = _; rw [if_neg c_100]
        rw [hO] at ih
        refine x_ic (q := 108) dX7_statesBySeen_107 rfl rfl ?_
        refine x_il_n (q := 109) dX7_statesBySeen_108 rfl rfl ?_
        refine x_if_eq (t := 117) (q := 112) dX7_statesBySeen_109 rfl rfl (fun c_109 => ?_) (fun c_109 => ?_)
        · skip
          exact absurd c_109 (by decide)
        · skip
          refine x_il (q := 114) dX7_statesBySeen_112 rfl rfl ?_
          refine x_goto (t := 118) dX7_statesBySeen_114 rfl ?_
          refine x_pow (q := 119) dX7_statesBySeen_118 rfl (by omega) (by omega) ?_
          first
          | refine x_or (q := 120) dX7_statesBySeen_119 rfl hor.1 (Int.le_of_lt (pw_pos _)) ?_
          | (refine x_or (q := 120) dX7_statesBySeen_119 rfl hor.1 (by decide) ?_; rw [show (((orT S s).toNat ||| (0 : Int).toNat : Nat) : Int) = orT S s by rw [show (0 : Int).toNat = 0 from rfl, Nat.or_zero]; omega])
          refine x_is2 (q := 121) dX7_statesBySeen_120 rfl rfl ?_
          refine x_ii3 (q := 124) dX7_statesBySeen_121 rfl rfl ⟨by omega, by omega⟩ ?_
          refine x_goto (t := 4) dX7_statesBySeen_124 rfl ?_
          exact ih _ _
      · skip
        have hO : orT S (s + 1) = orT S s := by show (if _ then _ else _) = _; rw [if_pos c_100]
        rw [hO] at ih
        refine x_ic (q := 104) dX7_statesBySeen_103 rfl rfl ?_
        refine x_goto (t := 119) dX7_statesBySeen_104 rfl ?_
        first
        | refine x_or (q := 120) dX7_statesBySeen_119 rfl hor.1 (Int.le_of_lt (pw_pos _)) ?_
        | (refine x_or (q := 120) dX7_statesBySeen_119 rfl hor.1 (by decide) ?_; rw [show (((orT S s).toNat ||| (0 : Int).toNat : Nat) : Int) = orT S s by rw [show (0 : Int).toNat = 0 from rfl, Nat.or_zero]; omega])
        refine x_is2 (q := 121) dX7_statesBySeen_120 rfl rfl ?_
        refine x_ii3 (q := 124) dX7_statesBySeen_121 rfl rfl ⟨by omega, by omega⟩ ?_
        refine x_goto (t := 4) dX7_statesBySeen_124 rfl ?_
        exact ih _ _
    have key : ∀ (k i : Nat) (x : Int), i + k = S.2.2.2.1.1 → (x = -9 ∨ (0 ≤ x ∧ x < (nS S.1.1 : Int))) → (if x = -9 then -9 else FW (tT S.1.1) (eT S.1.1) S.2.2.2.1.2 k i x) = seT S s → Wv g mX7_statesBySeen 0 0 35 [some (aR 70), some (aI 1), some (aI (orT S s)), some (aI (s : Int)), some (aI x), some (aI (i : Int))] [] (sh, rf, v) (retI (orT S (nS S.1.1)) (sh, rf, v)) := by
      intro k
      induction k with
      | zero =>
        intro i x hi hx he
        have he : x = seT S s := by rw [← he]; split; assumption; rfl
        subst he
        refine x_il (q := 37) dX7_statesBySeen_35 rfl rfl ?_
        refine x_al_n (q := 38) dX7_statesBySeen_37 rfl rfl ?_
        refine x_getIe (q := 41) (z := (S.2.2.2.1.1 : Int)) dX7_statesBySeen_38 rfl fX7_143 (hs _ _ rfl) rfl (c1) ?_
        refine x_ic_ge (t := 95) (q := 44) dX7_statesBySeen_41 rfl rfl (fun c_41 => ?_) (fun c_41 => ?_)
        · skip
          exact hend _
        · skip
          exact absurd (by omega) c_41
      | succ k ihk =>
        intro i x hi hx he
        have hfi := hsr i (by omega)
        refine x_il (q := 37) dX7_statesBySeen_35 rfl rfl ?_
        refine x_al_n (q := 38) dX7_statesBySeen_37 rfl rfl ?_
        refine x_getIe (q := 41) (z := (S.2.2.2.1.1 : Int)) dX7_statesBySeen_38 rfl fX7_143 (hs _ _ rfl) rfl (c1) ?_
        refine x_ic_ge (t := 95) (q := 44) dX7_statesBySeen_41 rfl rfl (fun c_41 => ?_) (fun c_41 => ?_)
        · skip
          exact absurd c_41 (by omega)
        · skip
          refine x_il (q := 46) dX7_statesBySeen_44 rfl rfl ?_
          refine x_bi (q := 48) dX7_statesBySeen_46 rfl rfl ?_
          refine x_ic_eq (t := 95) (q := 51) dX7_statesBySeen_48 rfl rfl (fun c_48 => ?_) (fun c_48 => ?_)
          · skip
            rw [if_pos c_48] at he
            have hx9 : x = seT S s := by omega
            rw [hx9]
            exact hend _
          · skip
            rw [if_neg c_48] at he
            obtain ⟨x, rfl⟩ := Int.eq_ofNat_of_zero_le (show 0 ≤ x by omega)
            refine x_al_n (q := 52) dX7_statesBySeen_51 rfl rfl ?_
            refine x_il (q := 54) dX7_statesBySeen_52 rfl rfl ?_
            refine x_al_n (q := 55) dX7_statesBySeen_54 rfl rfl ?_
            refine x_getR (q := 58) (o := some (75)) dX7_statesBySeen_55 rfl fX7_23 (hs _ _ rfl) rfl (hr _ _ rfl) ?_
            refine x_il (q := 60) dX7_statesBySeen_58 rfl rfl ?_
            refine x_ialde (q := 61) (z := S.2.2.2.1.2 i) dX7_statesBySeen_60 rfl (hs _ _ rfl) (by omega) (by omega) (by rw [Int.toNat_natCast]; exact c2 i (by omega)) ?_
            refine x_VI (q := 64) (ci := 7) dX7_statesBySeen_61 rfl kX7_statesBySeen_149 (m_tag hs hr hm hv (s := x) f2 hfi.1 (by omega)) rfl rfl (hs _ _ rfl) (by decide) rfl (Nat.le_of_ble_eq_true rfl) ⟨rfl, rfl⟩ ⟨Nat.zero_le _, Nat.zero_le _⟩ ?_
            refine x_bi (q := 66) dX7_statesBySeen_64 rfl rfl ?_
            refine x_ic_ne (t := 74) (q := 69) dX7_statesBySeen_66 rfl rfl (fun c_66 => ?_) (fun c_66 => ?_)
            · skip
              have hlx := Ex_lead hv c_66
              have ihk := ihk (i + 1) (Ex (eT S.1.1) (x : Int) (S.2.2.2.1.2 i)) (by omega) (.inr ⟨hlx.1, hlx.2.1⟩) (by rw [if_neg (by omega), ← he]; show _ = (if _ then _ else _); rw [if_neg c_66])
              refine x_al_n (q := 75) dX7_statesBySeen_74 rfl rfl ?_
              refine x_il (q := 77) dX7_statesBySeen_75 rfl rfl ?_
              refine x_al_n (q := 78) dX7_statesBySeen_77 rfl rfl ?_
              refine x_getR (q := 81) (o := some (75)) dX7_statesBySeen_78 rfl fX7_23 (hs _ _ rfl) rfl (hr _ _ rfl) ?_
              refine x_il (q := 83) dX7_statesBySeen_81 rfl rfl ?_
              refine x_ialde (q := 84) (z := S.2.2.2.1.2 i) dX7_statesBySeen_83 rfl (hs _ _ rfl) (by omega) (by omega) (by rw [Int.toNat_natCast]; exact c2 i (by omega)) ?_
              refine x_VI (q := 87) (ci := 7) dX7_statesBySeen_84 rfl kX7_statesBySeen_89 (m_lead hs hr hm hv (s := x) f1 hfi.1 (by omega)) rfl rfl (hs _ _ rfl) (by decide) rfl (Nat.le_of_ble_eq_true rfl) ⟨rfl, rfl⟩ ⟨Nat.zero_le _, Nat.zero_le _⟩ ?_
              refine x_is4 (q := 89) dX7_statesBySeen_87 rfl rfl ?_
              refine x_ii5 (q := 92) dX7_statesBySeen_89 rfl rfl ⟨by omega, by omega⟩ ?_
              refine x_goto (t := 35) dX7_statesBySeen_92 rfl ?_
              exact ihk
            · skip
              have he2 : (-9 : Int) = seT S s := by rw [← he]; show _ = (if _ then _ else _); rw [if_pos c_66]
              have ihk := ihk (i + 1) (-9) (by omega) (.inl rfl) (by rw [if_pos rfl]; exact he2)
              refine x_bi (q := 71) dX7_statesBySeen_69 rfl rfl ?_
              refine x_goto (t := 87) dX7_statesBySeen_71 rfl ?_
              refine x_is4 (q := 89) dX7_statesBySeen_87 rfl rfl ?_
              refine x_ii5 (q := 92) dX7_statesBySeen_89 rfl rfl ⟨by omega, by omega⟩ ?_
              refine x_goto (t := 35) dX7_statesBySeen_92 rfl ?_
              exact ihk
    refine x_il_n (q := 5) dX7_statesBySeen_4 rfl rfl ?_
    refine x_al_n (q := 6) dX7_statesBySeen_5 rfl rfl ?_
    refine x_VI (q := 9) (ci := 7) dX7_statesBySeen_6 rfl kX7_statesBySeen_82 (m_states hs hr hm hv) rfl rfl (hs _ _ rfl) (by decide) rfl (Nat.le_of_ble_eq_true rfl) ⟨rfl, rfl⟩ ⟨Nat.zero_le _, Nat.zero_le _⟩ ?_
    refine x_ic_ge (t := 127) (q := 12) dX7_statesBySeen_9 rfl rfl (fun c_9 => ?_) (fun c_9 => ?_)
    · skip
      exact absurd c_9 (by omega)
    · skip
      refine x_al_n (q := 13) dX7_statesBySeen_12 rfl rfl ?_
      refine x_getIe (q := 16) (z := mk (Gd S.1.1) (nS S.1.1)) dX7_statesBySeen_13 rfl fX7_92 (hs _ _ rfl) rfl (f3) ?_
      refine x_il_n (q := 17) dX7_statesBySeen_16 rfl rfl ?_
      refine x_shr (q := 18) dX7_statesBySeen_17 rfl (by omega) (by omega) (by omega) ?_
      refine x_ic (q := 19) dX7_statesBySeen_18 rfl rfl ?_
      refine x_and1 (q := 20) dX7_statesBySeen_19 rfl (by first | exact nn_dv (by omega) | omega) ?_
      refine x_ic (q := 21) dX7_statesBySeen_20 rfl rfl ?_
      refine x_ic_ne (t := 28) (q := 24) dX7_statesBySeen_21 rfl rfl (fun c_21 => ?_) (fun c_21 => ?_)
      · skip
        have hsb : seT S s = -9 := by unfold seT; rw [if_neg (by rw [has_mk hS.2.1, inS_f (by omega) (by omega) c_21]; decide)]
        have h9 := key S.2.2.2.1.1 0 (-9) (by omega) (.inl rfl) (by rw [if_pos rfl]; exact hsb.symm)
        refine x_bi (q := 30) dX7_statesBySeen_28 rfl rfl ?_
        refine x_is4 (q := 32) dX7_statesBySeen_30 rfl rfl ?_
        refine x_ic (q := 33) dX7_statesBySeen_32 rfl rfl ?_
        refine x_is5 (q := 35) dX7_statesBySeen_33 rfl rfl ?_
        exact h9
      · skip
        have hsb : seT S s = FW (tT S.1.1) (eT S.1.1) S.2.2.2.1.2 S.2.2.2.1.1 0 s := by unfold seT; rw [if_pos (by rw [has_mk hS.2.1, inS_t (by omega) (by omega) c_21])]
        have h9 := key S.2.2.2.1.1 0 (s : Int) (by omega) (.inr ⟨by omega, by omega⟩) (by rw [if_neg (by omega)]; exact hsb.symm)
        refine x_il_n (q := 25) dX7_statesBySeen_24 rfl rfl ?_
        refine x_goto (t := 30) dX7_statesBySeen_25 rfl ?_
        refine x_is4 (q := 32) dX7_statesBySeen_30 rfl rfl ?_
        refine x_ic (q := 33) dX7_statesBySeen_32 rfl rfl ?_
        refine x_is5 (q := 35) dX7_statesBySeen_33 rfl rfl ?_
        exact h9
set_option maxHeartbeats 4000000 in
set_option maxRecDepth 100000 in
theorem m_which (hs : ExtM sh) (hr : RokM rf) (hR : RM S v) (hV : SV S) {k : Int} : Cv g mX7_which [aR 70, aI k] (sh, rf, v) (sP (a_which S k) sh rf v) := by
  have hm := hR.cm
  have hv := hV.1.1
  have hS := nS_rng hv
  have hd := nd_rng hv
  have hq := pw16 hv.2.2.2.1 hv.2.2.2.2
  have hn24 := hV.1.2.1
  obtain ⟨hvB, hp1, hp2, hq1, hq2⟩ := id hv
  obtain ⟨m, hmq⟩ : ∃ m : Nat, (m : Int) = 2 ^ S.1.1.2.2.2.2.toNat := ⟨2 ^ S.1.1.2.2.2.2.toNat, by simp⟩
  have hnd : nd S.1.1 = 2 ^ S.1.1.2.2.2.1.toNat := rfl
  obtain ⟨a1, a2, a3, ⟨b1, b2, b3, b4⟩, ⟨c1, c2⟩, ⟨d1, d2⟩⟩ := id hR
  refine x_entry (ls := [some (aR 70), some (aI k)]) rfl rfl (Nat.le_of_ble_eq_true rfl) ?_
  refine x_il_n (q := 1) dX7_which_0 rfl rfl ?_
  refine x_i2l (q := 2) dX7_which_1 rfl ?_
  refine x_lc (q := 3) (z := 0) dX7_which_2 rfl rfl ?_
  refine x_lc (q := 4) (z := 1) dX7_which_3 rfl rfl ?_
  refine x_SI (q := 7) dX7_which_4 rfl kX7_which_70 (m_in) rfl rfl (Nat.le_of_ble_eq_true rfl) ⟨rfl, rfl⟩ ⟨Nat.zero_le _, Nat.zero_le _⟩ ?_
  refine x_if_ne (t := 12) (q := 10) dX7_which_7 rfl rfl (fun c_7 => ?_) (fun c_7 => ?_)
  · skip
    have e_7 := of_decide_eq_true (b2i_n0.mp c_7)
    refine x_al_n (q := 13) dX7_which_12 rfl rfl ?_
    refine x_V (q := 16) (ci := 7) dX7_which_13 rfl kX7_which_56 (m_finds hs hr hm hv) rfl rfl (hs _ _ rfl) (by decide) rfl (Nat.le_of_ble_eq_true rfl) ⟨rfl, rfl⟩ ⟨Nat.zero_le _, Nat.zero_le _⟩ (fun r1 h1 hp => ?_)
    obtain ⟨rfl, u, rfl, hF⟩ := hp
    have hsm := hF.sm
    have hRu := hsm.rm hR
    have hmu := hRu.cm
    have hQ := hF.fq
    obtain ⟨f1, f2, f3, f4⟩ := id hQ
    have f5 := hF.2.2.2.2.1
    obtain ⟨e1, e2, e3, ⟨g1, g2, g3, g4⟩, ⟨h1, h2⟩, ⟨i1, i2⟩⟩ := id hRu
    refine x_al_n (q := 17) dX7_which_16 rfl rfl ?_
    refine x_il_n (q := 18) dX7_which_17 rfl rfl ?_
    refine x_ic (q := 19) dX7_which_18 rfl rfl ?_
    refine x_ic_ne (t := 26) (q := 22) dX7_which_19 rfl rfl (fun c_19 => ?_) (fun c_19 => ?_)
    · skip
      refine x_ic (q := 27) dX7_which_26 rfl rfl ?_
      first
      | refine x_VI (q := 30) (ci := 7) dX7_which_27 rfl kX7_which_187 (m_seen1 hs hr hRu hV hQ) rfl rfl (hs _ _ rfl) (by decide) rfl (Nat.le_of_ble_eq_true rfl) ⟨rfl, rfl⟩ ⟨Nat.zero_le _, Nat.zero_le _⟩ ?_
      | refine x_VI (q := 30) (ci := 7) dX7_which_27 rfl kX7_which_187 (m_seen0 hs hr hRu hV hQ) rfl rfl (hs _ _ rfl) (by decide) rfl (Nat.le_of_ble_eq_true rfl) ⟨rfl, rfl⟩ ⟨Nat.zero_le _, Nat.zero_le _⟩ ?_
      first
      | exact x_iret dX7_which_30 rfl rfl (Nat.zero_le _) ⟨by rw [a_which, if_pos (by omega)], v, rfl, Sm.refl v⟩
      | exact x_iret dX7_which_30 rfl rfl (Nat.zero_le _) ⟨by rw [a_which, if_neg (by omega), if_pos (by omega)], u, rfl, hsm⟩
      | exact x_iret dX7_which_30 rfl rfl (Nat.zero_le _) ⟨by rw [a_which, if_neg (by omega), if_neg (by omega)], u, rfl, hsm⟩
    · skip
      refine x_ic (q := 23) dX7_which_22 rfl rfl ?_
      refine x_goto (t := 27) dX7_which_23 rfl ?_
      first
      | refine x_VI (q := 30) (ci := 7) dX7_which_27 rfl kX7_which_187 (m_seen1 hs hr hRu hV hQ) rfl rfl (hs _ _ rfl) (by decide) rfl (Nat.le_of_ble_eq_true rfl) ⟨rfl, rfl⟩ ⟨Nat.zero_le _, Nat.zero_le _⟩ ?_
      | refine x_VI (q := 30) (ci := 7) dX7_which_27 rfl kX7_which_187 (m_seen0 hs hr hRu hV hQ) rfl rfl (hs _ _ rfl) (by decide) rfl (Nat.le_of_ble_eq_true rfl) ⟨rfl, rfl⟩ ⟨Nat.zero_le _, Nat.zero_le _⟩ ?_
      first
      | exact x_iret dX7_which_30 rfl rfl (Nat.zero_le _) ⟨by rw [a_which, if_pos (by omega)], v, rfl, Sm.refl v⟩
      | exact x_iret dX7_which_30 rfl rfl (Nat.zero_le _) ⟨by rw [a_which, if_neg (by omega), if_pos (by omega)], u, rfl, hsm⟩
      | exact x_iret dX7_which_30 rfl rfl (Nat.zero_le _) ⟨by rw [a_which, if_neg (by omega), if_neg (by omega)], u, rfl, hsm⟩
  · skip
    have e_7 := of_decide_eq_false (b2i_0.mp c_7)
    refine x_ic (q := 11) dX7_which_10 rfl rfl ?_
    first
    | exact x_iret dX7_which_11 rfl rfl (Nat.zero_le _) ⟨by rw [a_which, if_pos (by omega)], v, rfl, Sm.refl v⟩
    | exact x_iret dX7_which_11 rfl rfl (Nat.zero_le _) ⟨by rw [a_which, if_neg (by omega), if_pos (by omega)], u, rfl, hsm⟩
    | exact x_iret dX7_which_11 rfl rfl (Nat.zero_le _) ⟨by rw [a_which, if_neg (by omega), if_neg (by omega)], u, rfl, hsm⟩
set_option maxHeartbeats 4000000 in
set_option maxRecDepth 100000 in
theorem m_byStates (hs : ExtM sh) (hr : RokM rf) (hR : RM S v) (hV : SV S) (hQ : FQ v S.1.1) {i : Nat} (hi : i < S.1.2.1) : Cv g mX7_byStates [aR 70, aI (i : Int)] (sh, rf, v) (retI (rbS S.1 i) (sh, rf, v)) := by
  have hm := hR.cm
  have hv := hV.1.1
  have hS := nS_rng hv
  have hd := nd_rng hv
  have hq := pw16 hv.2.2.2.1 hv.2.2.2.2
  have hn24 := hV.1.2.1
  obtain ⟨hvB, hp1, hp2, hq1, hq2⟩ := id hv
  obtain ⟨m, hmq⟩ : ∃ m : Nat, (m : Int) = 2 ^ S.1.1.2.2.2.2.toNat := ⟨2 ^ S.1.1.2.2.2.2.toNat, by simp⟩
  have hnd : nd S.1.1 = 2 ^ S.1.1.2.2.2.1.toNat := rfl
  obtain ⟨a1, a2, a3, ⟨b1, b2, b3, b4⟩, ⟨c1, c2⟩, ⟨d1, d2⟩⟩ := id hR
  obtain ⟨f1, f2, f3, f4⟩ := id hQ
  have hmk := mk_rng (Gd S.1.1) (nS S.1.1)
  refine x_entry (ls := [some (aR 70), some (aI (i : Int)), none, none, none]) rfl rfl (Nat.le_of_ble_eq_true rfl) ?_
  refine x_al_n (q := 1) dX7_byStates_0 rfl rfl ?_
  refine x_getIe (q := 4) (z := Bg S.1.1) dX7_byStates_1 rfl fX7_59 (hs _ _ rfl) rfl (f4) ?_
  refine x_is2 (q := 5) dX7_byStates_4 rfl rfl ?_
  refine x_bi (q := 7) dX7_byStates_5 rfl rfl ?_
  refine x_is3 (q := 8) dX7_byStates_7 rfl rfl ?_
  refine x_ic (q := 9) dX7_byStates_8 rfl rfl ?_
  refine x_is4 (q := 11) dX7_byStates_9 rfl rfl ?_
  refine x_up (S := fun k => Wv g mX7_byStates 0 0 11 [some (aR 70), some (aI (i : Int)), some (aI (rdS (tT S.1.1) (eT S.1.1) (Bg S.1.1) S.1.2.2.1 k).1), some (aI (rdS (tT S.1.1) (eT S.1.1) (Bg S.1.1) S.1.2.2.1 k).2), some (aI (k : Int))] [] (sh, rf, v) (retI (rbS S.1 i) (sh, rf, v))) (i + 1) ?_ ?_ 0 (Nat.zero_le _)
  · skip
    refine x_il (q := 13) dX7_byStates_11 rfl rfl ?_
    refine x_il_n (q := 14) dX7_byStates_13 rfl rfl ?_
    refine x_ic_gt (t := 76) (q := 17) dX7_byStates_14 rfl rfl (fun c_14 => ?_) (fun c_14 => ?_)
    · skip
      refine x_il_n (q := 77) dX7_byStates_76 rfl rfl ?_
      exact x_iret dX7_byStates_77 rfl rfl (Nat.zero_le _) (retI_mk (by rfl))
    · skip
      exact absurd (by omega) c_14
  · intro k hk ih
    have hwk := hV.1.w16 (i := k) (by omega)
    have hrg := rdS_rng hv (f := S.1.2.2.1) k
    have hT2 : (rdS (tT S.1.1) (eT S.1.1) (Bg S.1.1) S.1.2.2.1 (k + 1)).2 = Ex (tT S.1.1) (rdS (tT S.1.1) (eT S.1.1) (Bg S.1.1) S.1.2.2.1 k).1 (S.1.2.2.1 k) := rfl
    refine x_il (q := 13) dX7_byStates_11 rfl rfl ?_
    refine x_il_n (q := 14) dX7_byStates_13 rfl rfl ?_
    refine x_ic_gt (t := 76) (q := 17) dX7_byStates_14 rfl rfl (fun c_14 => ?_) (fun c_14 => ?_)
    · skip
      exact absurd c_14 (by omega)
    · skip
      refine x_il_n (q := 18) dX7_byStates_17 rfl rfl ?_
      refine x_bi (q := 20) dX7_byStates_18 rfl rfl ?_
      refine x_ic_ne (t := 28) (q := 23) dX7_byStates_20 rfl rfl (fun c_20 => ?_) (fun c_20 => ?_)
      · skip
        obtain ⟨x, hxx⟩ := Int.eq_ofNat_of_zero_le (show 0 ≤ (rdS (tT S.1.1) (eT S.1.1) (Bg S.1.1) S.1.2.2.1 k).1 by omega)
        rw [hxx] at hT2 hrg c_20 ⊢
        refine x_al_n (q := 29) dX7_byStates_28 rfl rfl ?_
        refine x_il_n (q := 30) dX7_byStates_29 rfl rfl ?_
        refine x_al_n (q := 31) dX7_byStates_30 rfl rfl ?_
        refine x_getR (q := 34) (o := some (71)) dX7_byStates_31 rfl fX7_7 (hs _ _ rfl) rfl (hr _ _ rfl) ?_
        refine x_bi (q := 36) dX7_byStates_34 rfl rfl ?_
        refine x_il (q := 38) dX7_byStates_36 rfl rfl ?_
        refine x_add (q := 39) dX7_byStates_38 rfl ⟨by omega, by omega⟩ ?_
        refine x_ialde (q := 40) (z := S.1.2.2.1 k) dX7_byStates_39 rfl (hs _ _ rfl) (by omega) (by omega) (by rw [show (31 + (k : Int)).toNat = 0 + 31 + k by omega]; exact (a1.2.2.2 k (by omega)).2.1) ?_
        refine x_VI (q := 43) (ci := 7) dX7_byStates_40 rfl kX7_byStates_149 (m_tag hs hr hm hv (s := x) f2 hwk.1 (by omega)) rfl rfl (hs _ _ rfl) (by decide) rfl (Nat.le_of_ble_eq_true rfl) ⟨rfl, rfl⟩ ⟨Nat.zero_le _, Nat.zero_le _⟩ ?_
        refine x_is3 (q := 44) dX7_byStates_43 rfl rfl ?_
        refine x_il_n (q := 45) dX7_byStates_44 rfl rfl ?_
        refine x_bi (q := 47) dX7_byStates_45 rfl rfl ?_
        refine x_ic_ne (t := 54) (q := 50) dX7_byStates_47 rfl rfl (fun c_47 => ?_) (fun c_47 => ?_)
        · skip
          have hE : (rdS (tT S.1.1) (eT S.1.1) (Bg S.1.1) S.1.2.2.1 (k + 1)).1 = Ex (eT S.1.1) (x : Int) (S.1.2.2.1 k) := by show (if _ then _ else _) = _; rw [hxx, if_neg c_47]
          rw [hE, hT2] at ih
          refine x_al_n (q := 55) dX7_byStates_54 rfl rfl ?_
          refine x_il_n (q := 56) dX7_byStates_55 rfl rfl ?_
          refine x_al_n (q := 57) dX7_byStates_56 rfl rfl ?_
          refine x_getR (q := 60) (o := some (71)) dX7_byStates_57 rfl fX7_7 (hs _ _ rfl) rfl (hr _ _ rfl) ?_
          refine x_bi (q := 62) dX7_byStates_60 rfl rfl ?_
          refine x_il (q := 64) dX7_byStates_62 rfl rfl ?_
          refine x_add (q := 65) dX7_byStates_64 rfl ⟨by omega, by omega⟩ ?_
          refine x_ialde (q := 66) (z := S.1.2.2.1 k) dX7_byStates_65 rfl (hs _ _ rfl) (by omega) (by omega) (by rw [show (31 + (k : Int)).toNat = 0 + 31 + k by omega]; exact (a1.2.2.2 k (by omega)).2.1) ?_
          refine x_VI (q := 69) (ci := 7) dX7_byStates_66 rfl kX7_byStates_89 (m_lead hs hr hm hv (s := x) f1 hwk.1 (by omega)) rfl rfl (hs _ _ rfl) (by decide) rfl (Nat.le_of_ble_eq_true rfl) ⟨rfl, rfl⟩ ⟨Nat.zero_le _, Nat.zero_le _⟩ ?_
          refine x_is2 (q := 70) dX7_byStates_69 rfl rfl ?_
          refine x_ii4 (q := 73) dX7_byStates_70 rfl rfl ⟨by omega, by omega⟩ ?_
          refine x_goto (t := 11) dX7_byStates_73 rfl ?_
          exact ih
        · skip
          first
          | (have hE : (rdS (tT S.1.1) (eT S.1.1) (Bg S.1.1) S.1.2.2.1 (k + 1)).1 = (x : Int) := by (show (if _ then _ else _) = _; rw [hxx, if_pos c_47])
             rw [hE, hT2] at ih)
          | skip
          refine x_il_n (q := 51) dX7_byStates_50 rfl rfl ?_
          refine x_goto (t := 69) dX7_byStates_51 rfl ?_
          refine x_is2 (q := 70) dX7_byStates_69 rfl rfl ?_
          refine x_ii4 (q := 73) dX7_byStates_70 rfl rfl ⟨by omega, by omega⟩ ?_
          refine x_goto (t := 11) dX7_byStates_73 rfl ?_
          exact ih
      · skip
        have hx : Ex (tT S.1.1) (rdS (tT S.1.1) (eT S.1.1) (Bg S.1.1) S.1.2.2.1 k).1 (S.1.2.2.1 k) = -9 := by rw [c_20]; exact Ex_9 _ _
        have hE : (rdS (tT S.1.1) (eT S.1.1) (Bg S.1.1) S.1.2.2.1 (k + 1)).1 = (rdS (tT S.1.1) (eT S.1.1) (Bg S.1.1) S.1.2.2.1 k).1 := by show (if _ then _ else _) = _; rw [if_pos hx]
        rw [hE, hT2, hx] at ih
        refine x_bi (q := 25) dX7_byStates_23 rfl rfl ?_
        refine x_goto (t := 43) dX7_byStates_25 rfl ?_
        refine x_is3 (q := 44) dX7_byStates_43 rfl rfl ?_
        refine x_il_n (q := 45) dX7_byStates_44 rfl rfl ?_
        refine x_bi (q := 47) dX7_byStates_45 rfl rfl ?_
        refine x_ic_ne (t := 54) (q := 50) dX7_byStates_47 rfl rfl (fun c_47 => ?_) (fun c_47 => ?_)
        · skip
          exact absurd c_47 (by decide)
        · skip
          first
          | (have hE : (rdS (tT S.1.1) (eT S.1.1) (Bg S.1.1) S.1.2.2.1 (k + 1)).1 = (x : Int) := by (show (if _ then _ else _) = _; rw [hxx, if_pos c_47])
             rw [hE, hT2] at ih)
          | skip
          refine x_il_n (q := 51) dX7_byStates_50 rfl rfl ?_
          refine x_goto (t := 69) dX7_byStates_51 rfl ?_
          refine x_is2 (q := 70) dX7_byStates_69 rfl rfl ?_
          refine x_ii4 (q := 73) dX7_byStates_70 rfl rfl ⟨by omega, by omega⟩ ?_
          refine x_goto (t := 11) dX7_byStates_73 rfl ?_
          exact ih
set_option maxHeartbeats 4000000 in
set_option maxRecDepth 100000 in
theorem m_otherBits (hs : ExtM sh) (hr : RokM rf) (hR : RM S v) (hV : SV S)  : Cv g mX7_otherBits [aR 70] (sh, rf, v) (retI (tbS S.1 S.1.2.1) (sh, rf, v)) := by
  have hm := hR.cm
  have hv := hV.1.1
  have hS := nS_rng hv
  have hd := nd_rng hv
  have hq := pw16 hv.2.2.2.1 hv.2.2.2.2
  have hn24 := hV.1.2.1
  obtain ⟨hvB, hp1, hp2, hq1, hq2⟩ := id hv
  obtain ⟨m, hmq⟩ : ∃ m : Nat, (m : Int) = 2 ^ S.1.1.2.2.2.2.toNat := ⟨2 ^ S.1.1.2.2.2.2.toNat, by simp⟩
  have hnd : nd S.1.1 = 2 ^ S.1.1.2.2.2.1.toNat := rfl
  obtain ⟨a1, a2, a3, ⟨b1, b2, b3, b4⟩, ⟨c1, c2⟩, ⟨d1, d2⟩⟩ := id hR
  refine x_entry (ls := [some (aR 70), none, none, none]) rfl rfl (Nat.le_of_ble_eq_true rfl) ?_
  refine x_ic (q := 1) dX7_otherBits_0 rfl rfl ?_
  refine x_is1 (q := 2) dX7_otherBits_1 rfl rfl ?_
  refine x_ic (q := 3) dX7_otherBits_2 rfl rfl ?_
  refine x_is2 (q := 4) dX7_otherBits_3 rfl rfl ?_
  refine x_up (S := fun i => ∀ o : Option AV, Wv g mX7_otherBits 0 0 4 [some (aR 70), some (aI (tbS S.1 i)), some (aI (i : Int)), o] [] (sh, rf, v) (retI (tbS S.1 S.1.2.1) (sh, rf, v))) S.1.2.1 ?_ ?_ 0 (Nat.zero_le _) none
  · intro o
    refine x_il_n (q := 5) dX7_otherBits_4 rfl rfl ?_
    refine x_al_n (q := 6) dX7_otherBits_5 rfl rfl ?_
    refine x_getR (q := 9) (o := some (71)) dX7_otherBits_6 rfl fX7_7 (hs _ _ rfl) rfl (hr _ _ rfl) ?_
    refine x_ic (q := 10) dX7_otherBits_9 rfl rfl ?_
    refine x_ialde (q := 11) (z := (S.1.2.1 : Int)) dX7_otherBits_10 rfl (hs _ _ rfl) (by omega) (by omega) ((by exact a1.2.1)) ?_
    refine x_ic_ge (t := 57) (q := 14) dX7_otherBits_11 rfl rfl (fun c_11 => ?_) (fun c_11 => ?_)
    · skip
      refine x_il_n (q := 58) dX7_otherBits_57 rfl rfl ?_
      exact x_iret dX7_otherBits_58 rfl rfl (Nat.zero_le _) (retI_mk (by rfl))
    · skip
      exact absurd (Int.le_refl _) c_11
  · intro i hi ih o
    have hw := hV.1.w16 (i := i) (by omega)
    have htb := tbS_rng S.1 i
    have hxr : (S.1.2.2.1 i).toNat ^^^ (S.1.2.2.2.1 i).toNat < 2 ^ 4 := Nat.xor_lt_two_pow (by omega) (by omega)
    have key : ∀ (f : Nat) (n x : Int), f ≤ 4 → 0 ≤ x → x < 2 ^ f → 0 ≤ n → n ≤ 1000 - 10 * f → n + pcnt x = tbS S.1 (i + 1) → Wv g mX7_otherBits 0 0 34 [some (aR 70), some (aI (n)), some (aI (i : Int)), some (aI x)] [] (sh, rf, v) (retI (tbS S.1 S.1.2.1) (sh, rf, v)) := by
      intro f
      induction f with
      | zero =>
        intro n x hf h0 h1 n0 n1 he
        have hx0 : x = 0 := by have e0 : (2 : Int) ^ 0 = 1 := rfl; omega
        subst hx0
        have he : n = tbS S.1 (i + 1) := by rw [← he]; show n = n + 0; omega
        subst he
        refine x_il_n (q := 35) dX7_otherBits_34 rfl rfl ?_
        refine x_if_le (t := 51) (q := 38) dX7_otherBits_35 rfl rfl (fun c_35 => ?_) (fun c_35 => ?_)
        · skip
          refine x_ii2 (q := 54) dX7_otherBits_51 rfl rfl ⟨by omega, by omega⟩ ?_
          refine x_goto (t := 4) dX7_otherBits_54 rfl ?_
          exact ih _
        · skip
          exact absurd (by decide) c_35
      | succ f ihf =>
        intro n x hf h0 h1 n0 n1 he
        have hp4 := pw_le (k := f + 1) (n := 4) (by omega)
        have e4 : (2 : Int) ^ 4 = 16 := by decide
        have e5 : (2 : Int) ^ (f + 1) = 2 ^ f * 2 := Int.pow_succ _ _
        have hph := pcnt_h h0 (by omega)
        refine x_il_n (q := 35) dX7_otherBits_34 rfl rfl ?_
        refine x_if_le (t := 51) (q := 38) dX7_otherBits_35 rfl rfl (fun c_35 => ?_) (fun c_35 => ?_)
        · skip
          have hx0 : x = 0 := by omega
          subst hx0
          have he : n = tbS S.1 (i + 1) := by rw [← he]; show n = n + 0; omega
          subst he
          refine x_ii2 (q := 54) dX7_otherBits_51 rfl rfl ⟨by omega, by omega⟩ ?_
          refine x_goto (t := 4) dX7_otherBits_54 rfl ?_
          exact ih _
        · skip
          have ihf := ihf (n + x % 2) (x / 2) (by omega) (show 0 ≤ x / 2 by omega) (show x / 2 < 2 ^ f by omega) (by omega) (by omega) (by rw [← he, hph]; show n + x % 2 + pcnt (x / 2) = _; omega)
          refine x_il_n (q := 39) dX7_otherBits_38 rfl rfl ?_
          refine x_il_n (q := 40) dX7_otherBits_39 rfl rfl ?_
          refine x_ic (q := 41) dX7_otherBits_40 rfl rfl ?_
          refine x_and1 (q := 42) dX7_otherBits_41 rfl (by first | exact nn_dv (by omega) | omega) ?_
          refine x_add (q := 43) dX7_otherBits_42 rfl ⟨by omega, by omega⟩ ?_
          refine x_is1 (q := 44) dX7_otherBits_43 rfl rfl ?_
          refine x_il_n (q := 45) dX7_otherBits_44 rfl rfl ?_
          refine x_ic (q := 46) dX7_otherBits_45 rfl rfl ?_
          refine x_shr (q := 47) dX7_otherBits_46 rfl (by omega) (by decide) (by decide) ?_
          rw [show (2 : Int) ^ (1 : Int).toNat = 2 from by decide]
          refine x_is3 (q := 48) dX7_otherBits_47 rfl rfl ?_
          refine x_goto (t := 34) dX7_otherBits_48 rfl ?_
          exact ihf
    refine x_il_n (q := 5) dX7_otherBits_4 rfl rfl ?_
    refine x_al_n (q := 6) dX7_otherBits_5 rfl rfl ?_
    refine x_getR (q := 9) (o := some (71)) dX7_otherBits_6 rfl fX7_7 (hs _ _ rfl) rfl (hr _ _ rfl) ?_
    refine x_ic (q := 10) dX7_otherBits_9 rfl rfl ?_
    refine x_ialde (q := 11) (z := (S.1.2.1 : Int)) dX7_otherBits_10 rfl (hs _ _ rfl) (by omega) (by omega) ((by exact a1.2.1)) ?_
    refine x_ic_ge (t := 57) (q := 14) dX7_otherBits_11 rfl rfl (fun c_11 => ?_) (fun c_11 => ?_)
    · skip
      exact absurd c_11 (by omega)
    · skip
      refine x_al_n (q := 15) dX7_otherBits_14 rfl rfl ?_
      refine x_getR (q := 18) (o := some (71)) dX7_otherBits_15 rfl fX7_7 (hs _ _ rfl) rfl (hr _ _ rfl) ?_
      refine x_bi (q := 20) dX7_otherBits_18 rfl rfl ?_
      refine x_il_n (q := 21) dX7_otherBits_20 rfl rfl ?_
      refine x_add (q := 22) dX7_otherBits_21 rfl ⟨by omega, by omega⟩ ?_
      refine x_ialde (q := 23) (z := S.1.2.2.2.1 i) dX7_otherBits_22 rfl (hs _ _ rfl) (by omega) (by omega) (by rw [show (7 + (i : Int)).toNat = 0 + 7 + i by omega]; exact (a1.2.2.2 i (by omega)).1) ?_
      refine x_al_n (q := 24) dX7_otherBits_23 rfl rfl ?_
      refine x_getR (q := 27) (o := some (71)) dX7_otherBits_24 rfl fX7_7 (hs _ _ rfl) rfl (hr _ _ rfl) ?_
      refine x_bi (q := 29) dX7_otherBits_27 rfl rfl ?_
      refine x_il_n (q := 30) dX7_otherBits_29 rfl rfl ?_
      refine x_add (q := 31) dX7_otherBits_30 rfl ⟨by omega, by omega⟩ ?_
      refine x_ialde (q := 32) (z := S.1.2.2.1 i) dX7_otherBits_31 rfl (hs _ _ rfl) (by omega) (by omega) (by rw [show (31 + (i : Int)).toNat = 0 + 31 + i by omega]; exact (a1.2.2.2 i (by omega)).2.1) ?_
      refine x_xor (q := 33) dX7_otherBits_32 rfl (by omega) (by omega) ?_
      rw [Nat.xor_comm]
      refine x_is3 (q := 34) dX7_otherBits_33 rfl rfl ?_
      exact key 4 _ _ (Nat.le_refl _) (by omega) (by rw [show (2 : Int) ^ 4 = 16 from by decide]; omega) (by omega) (by omega) rfl
end MOC

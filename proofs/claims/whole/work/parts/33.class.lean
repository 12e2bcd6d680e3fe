/-! ===== the class: in which state; counts; small changes ===== -/
theorem Ex_ne {E : Nat → Nat → Int} {s w : Int} (h : ¬ Ex E s w = -9) : 0 ≤ s ∧ s < 7 ∧ 0 ≤ w ∧ w < 16 ∧ Ex E s w = E s.toNat w.toNat := by
  unfold Ex at h ⊢
  by_cases hc : 0 ≤ s ∧ s < 7 ∧ 0 ≤ w ∧ w < 16
  · rw [if_pos hc]; exact ⟨hc.1, hc.2.1, hc.2.2.1, hc.2.2.2, rfl⟩
  · rw [if_neg hc] at h; exact absurd rfl h
theorem FW_rng {c : Cfg} (hv : Vld c) {f : Nat → Int} : ∀ (k i : Nat) (x : Int), 0 ≤ x → x < nS c → FW (tT c) (eT c) f k i x = -9 ∨ (0 ≤ FW (tT c) (eT c) f k i x ∧ FW (tT c) (eT c) f k i x < nS c)
  | 0, i, x, h0, h1 => .inr ⟨h0, h1⟩
  | k + 1, i, x, h0, h1 => by
    unfold FW
    split
    · exact .inl rfl
    · rename_i hne
      obtain ⟨a1, a2, a3, a4, a5⟩ := Ex_ne hne
      rw [a5] at hne
      obtain ⟨-, -, -, -, -, m, m1, m2, m3⟩ := tT_good hv hne
      have e : Ex (eT c) x (f i) = (m : Int) := by unfold Ex; rw [if_pos ⟨a1, a2, a3, a4⟩]; exact m3
      rw [e]
      exact FW_rng hv k (i + 1) m (by omega) (by omega)
theorem seT_rng {S : St} (hv : Vld S.1.1) {s : Nat} (hs : s < nS S.1.1) : seT S s = -9 ∨ (0 ≤ seT S s ∧ seT S s < nS S.1.1) := by
  unfold seT
  split
  · exact FW_rng hv _ _ _ (by omega) (by omega)
  · exact .inl rfl
theorem orT_rng {S : St} (hv : Vld S.1.1) : ∀ k, k ≤ nS S.1.1 → 0 ≤ orT S k ∧ orT S k < 128
  | 0, _ => by show (0 : Int) ≤ 0 ∧ (0 : Int) < 128; decide
  | k + 1, hk => by
    have ih := orT_rng hv k (by omega)
    have hn := nS_rng hv
    have hr := seT_rng hv (s := k) (by omega)
    unfold orT
    split
    · exact ih
    · have hp := pw_le (k := (seT S k).toNat) (n := 6) (by omega)
      have e6 : (2 : Int) ^ 6 = 64 := by decide
      have hp0 := pw_pos (seT S k).toNat
      have := Nat.or_lt_two_pow (n := 7) (x := (orT S k).toNat) (y := ((2 : Int) ^ (seT S k).toNat).toNat) (by omega) (by omega)
      omega
theorem RCo_cong {S S2 : St} {rf : Nat → Nat → Option Nat} {v u : Nat → Nat → Int} (h : RC S rf v) (h6 : S.2.1.length ≤ 6) (h1 : ∀ d, 4 ≤ d → d < 69 → u d = v d) (h2 : u 0 6 = v 0 6) (e1 : S2.1 = S.1) (e2 : S2.2.1 = S.2.1) (e3 : S2.2.2.1 = S.2.2.1) (hc : u 0 10 = (S2.2.2.2.1.1 : Int) ∧ ∀ i, i < S2.2.2.2.1.1 → u 69 i = S2.2.2.2.1.2 i) (hd : u 1 1 = (S2.2.2.2.2.1 : Int) ∧ ∀ i, i < S2.2.2.2.2.1 → u 2 i = S2.2.2.2.2.2 i) : RC S2 rf u := by
  obtain ⟨a1, a2, ⟨π, p1, p2, p3⟩, a4, ⟨b1, b2, b3, b4⟩, -, -⟩ := h
  unfold RC
  rw [e1, e2, e3]
  refine ⟨a1.cong (fun d g1 g2 => h1 d (by omega) (by omega)), a2.cong (h1 10 (by decide) (by decide)) (h1 11 (by decide) (by decide)) (h1 12 (by decide) (by decide)), ⟨π, p1, p2, fun i hh hi => ?_⟩, by rw [h2]; exact a4, ⟨by rw [h1 68 (by decide) (by decide)]; exact b1, by rw [h1 68 (by decide) (by decide)]; exact b2, fun hh hi => (b3 hh hi).cong (fun d g1 g2 => h1 d (by omega) (by omega)), fun hh hi => (b4 hh hi).cong (fun d g1 g2 => h1 d (by omega) (by omega))⟩, hc, hd⟩
  have hl : i < S.2.1.length := (List.getElem?_eq_some_iff.mp hi).1
  have := p1.1 i (by omega)
  exact (p3 i hh hi).cong (fun d g1 g2 => h1 d (by omega) (by omega))
section CLB
variable {g : GL} {sh : List (Nat × Nat)} {rf : Nat → Nat → Option Nat} {v : Nat → Nat → Int} {S : St}

set_option maxHeartbeats 4000000 in
set_option maxRecDepth 100000 in
theorem k_endOfSeen (hs : Ext sh) (hr : Rok rf) (hR : RC S rf v) (hV : SV S) {s : Nat} (hs7 : s < nS S.1.1) : Cv g mX6_endOfSeen [aR 0, aI (s : Int)] (sh, rf, v) (retI (seT S s) (sh, rf, v)) := by
  obtain ⟨⟨n0, n1, n2, n3, n4⟩, nb, nn, nse, nw⟩ := hR.now
  obtain ⟨x0, x1, x2, x3, x4, x5⟩ := hR.2.1
  have hv := hV.1.1
  have hS := nS_rng hv
  have hd := nd_rng hv
  have hq := pw16 hv.2.2.2.1 hv.2.2.2.2
  have hvb : VBan (v 5 0) (v 5 1) (v 5 2) := by rw [n0, n1, n2]; exact hv.1
  obtain ⟨hvB, hp1, hp2, hq1, hq2⟩ := hv
  have hmk := mk_rng (Gd S.1.1) (nS S.1.1)
  obtain ⟨sm, sf⟩ := hR.2.2.2.2.2.1
  have h6 := hV.2.2.2.2.2.1.1
  refine x_entry (ls := [some (aR 0), some (aI (s : Int))]) rfl rfl (Nat.le_of_ble_eq_true rfl) ?_
  refine x_al_n (q := 1) dX6_endOfSeen_0 rfl rfl ?_
  refine x_getR (q := 4) (o := some (10)) dX6_endOfSeen_1 rfl fX6_33 (hs _ _ rfl) rfl (hr _ _ _ rfl) ?_
  refine x_il_n (q := 5) dX6_endOfSeen_4 rfl rfl ?_
  refine x_VI (q := 8) (ci := 0) dX6_endOfSeen_5 rfl kX6_endOfSeen_153 (c_isGood hs hr (by rw [x1]; omega)) rfl rfl (hs _ _ rfl) (by decide) rfl (Nat.le_of_ble_eq_true rfl) ⟨rfl, rfl⟩ ⟨Nat.zero_le _, Nat.zero_le _⟩ ?_
  rw [x1]
  refine x_if_eq (t := 31) (q := 11) dX6_endOfSeen_8 rfl rfl (fun c_8 => ?_) (fun c_8 => ?_)
  · skip
    have hG : seT S s = -9 := by unfold seT; rw [if_neg (by rw [b2i_0.mp c_8]; decide)]
    refine x_bi (q := 33) dX6_endOfSeen_31 rfl rfl ?_
    exact x_iret dX6_endOfSeen_33 rfl rfl (Nat.zero_le _) (retI_mk (by rw [hG]))
  · skip
    have hG : seT S s = FW (tT S.1.1) (eT S.1.1) S.2.2.2.1.2 S.2.2.2.1.1 0 s := by unfold seT; rw [if_pos (b2i_n0.mp c_8)]
    refine x_al_n (q := 12) dX6_endOfSeen_11 rfl rfl ?_
    refine x_getR (q := 15) (o := some (10)) dX6_endOfSeen_12 rfl fX6_33 (hs _ _ rfl) rfl (hr _ _ _ rfl) ?_
    refine x_il_n (q := 16) dX6_endOfSeen_15 rfl rfl ?_
    refine x_al_n (q := 17) dX6_endOfSeen_16 rfl rfl ?_
    refine x_getR (q := 20) (o := some (69)) dX6_endOfSeen_17 rfl fX6_55 (hs _ _ rfl) rfl (hr _ _ _ rfl) ?_
    refine x_ic (q := 21) dX6_endOfSeen_20 rfl rfl ?_
    refine x_top (b := ((0 : Nat) : Int)) rfl ?_
    refine x_al_n (q := 22) dX6_endOfSeen_21 rfl rfl ?_
    refine x_getIe (q := 25) (z := (S.2.2.2.1.1 : Int)) dX6_endOfSeen_22 rfl fX6_96 (hs _ _ rfl) rfl (sm) ?_
    refine x_VI (q := 28) (ci := 0) dX6_endOfSeen_25 rfl kX6_endOfSeen_219 (c_follow hs hr (c := 69) (a := 0) (n := S.2.2.2.1.1) (m := 6) (hs _ _ rfl) (by omega) (by decide)) rfl rfl (hs _ _ rfl) (by decide) rfl (Nat.le_of_ble_eq_true rfl) ⟨rfl, rfl⟩ ⟨Nat.zero_le _, Nat.zero_le _⟩ ?_
    rw [folw_FW (f := S.2.2.2.1.2) x4 x5 _ _ _ (fun j h1 h2 => sf j (by omega))]
    refine x_goto (t := 33) dX6_endOfSeen_28 rfl ?_
    exact x_iret dX6_endOfSeen_33 rfl rfl (Nat.zero_le _) (retI_mk (by rw [hG]))
set_option maxHeartbeats 4000000 in
set_option maxRecDepth 100000 in
theorem k_origins (hs : Ext sh) (hr : Rok rf) (hR : RC S rf v) (hV : SV S)  : Cv g mX6_origins [aR 0] (sh, rf, v) (retI (mk (fun s => !decide (seT S s = -9)) (nS S.1.1)) (sh, rf, v)) := by
  obtain ⟨⟨n0, n1, n2, n3, n4⟩, nb, nn, nse, nw⟩ := hR.now
  obtain ⟨x0, x1, x2, x3, x4, x5⟩ := hR.2.1
  have hv := hV.1.1
  have hS := nS_rng hv
  have hd := nd_rng hv
  have hq := pw16 hv.2.2.2.1 hv.2.2.2.2
  have hvb : VBan (v 5 0) (v 5 1) (v 5 2) := by rw [n0, n1, n2]; exact hv.1
  obtain ⟨hvB, hp1, hp2, hq1, hq2⟩ := hv
  have hmk := mk_rng (Gd S.1.1) (nS S.1.1)
  refine x_entry (ls := [some (aR 0), none, none]) rfl rfl (Nat.le_of_ble_eq_true rfl) ?_
  refine x_ic (q := 1) dX6_origins_0 rfl rfl ?_
  refine x_is1 (q := 2) dX6_origins_1 rfl rfl ?_
  refine x_ic (q := 3) dX6_origins_2 rfl rfl ?_
  refine x_is2 (q := 4) dX6_origins_3 rfl rfl ?_
  refine x_up (S := fun s => Wv g mX6_origins 0 0 4 [some (aR 0), some (aI (mk (fun s => !decide (seT S s = -9)) s)), some (aI (s : Int))] [] (sh, rf, v) (retI (mk (fun s => !decide (seT S s = -9)) (nS S.1.1)) (sh, rf, v))) (nS S.1.1) ?_ ?_ 0 (Nat.zero_le _)
  · skip
    refine x_il_n (q := 5) dX6_origins_4 rfl rfl ?_
    refine x_al_n (q := 6) dX6_origins_5 rfl rfl ?_
    refine x_getR (q := 9) (o := some (10)) dX6_origins_6 rfl fX6_33 (hs _ _ rfl) rfl (hr _ _ _ rfl) ?_
    refine x_getIe (q := 12) (z := (nS S.1.1 : Int)) dX6_origins_9 rfl fX6_99 (hs _ _ rfl) rfl (x0) ?_
    refine x_ic_ge (t := 37) (q := 15) dX6_origins_12 rfl rfl (fun c_12 => ?_) (fun c_12 => ?_)
    · skip
      refine x_il_n (q := 38) dX6_origins_37 rfl rfl ?_
      exact x_iret dX6_origins_38 rfl rfl (Nat.zero_le _) (retI_mk (by rfl))
    · skip
      exact absurd (Int.le_refl _) c_12
  · intro s hsn ih
    have hml := mk_rng (fun s => !decide (seT S s = -9)) s
    refine x_il_n (q := 5) dX6_origins_4 rfl rfl ?_
    refine x_al_n (q := 6) dX6_origins_5 rfl rfl ?_
    refine x_getR (q := 9) (o := some (10)) dX6_origins_6 rfl fX6_33 (hs _ _ rfl) rfl (hr _ _ _ rfl) ?_
    refine x_getIe (q := 12) (z := (nS S.1.1 : Int)) dX6_origins_9 rfl fX6_99 (hs _ _ rfl) rfl (x0) ?_
    refine x_ic_ge (t := 37) (q := 15) dX6_origins_12 rfl rfl (fun c_12 => ?_) (fun c_12 => ?_)
    · skip
      exact absurd c_12 (by omega)
    · skip
      refine x_al_n (q := 16) dX6_origins_15 rfl rfl ?_
      refine x_il_n (q := 17) dX6_origins_16 rfl rfl ?_
      refine x_VI (q := 20) (ci := 6) dX6_origins_17 rfl kX6_origins_223 (k_endOfSeen hs hr hR hV hsn) rfl rfl (hs _ _ rfl) (by decide) rfl (Nat.le_of_ble_eq_true rfl) ⟨rfl, rfl⟩ ⟨Nat.zero_le _, Nat.zero_le _⟩ ?_
      refine x_bi (q := 22) dX6_origins_20 rfl rfl ?_
      refine x_ic_eq (t := 31) (q := 25) dX6_origins_22 rfl rfl (fun c_22 => ?_) (fun c_22 => ?_)
      · skip
        rw [mk_s, if_neg (by simp [c_22]), Int.add_zero] at ih
        refine x_ii2 (q := 34) dX6_origins_31 rfl rfl ⟨by omega, by omega⟩ ?_
        refine x_goto (t := 4) dX6_origins_34 rfl ?_
        exact ih
      · skip
        rw [mk_s, if_pos (by simp [c_22])] at ih
        refine x_il_n (q := 26) dX6_origins_25 rfl rfl ?_
        refine x_ic (q := 27) dX6_origins_26 rfl rfl ?_
        refine x_il_n (q := 28) dX6_origins_27 rfl rfl ?_
        refine x_pow (q := 29) dX6_origins_28 rfl (by omega) (by omega) ?_
        rw [Int.toNat_natCast]
        refine x_orP (q := 30) dX6_origins_29 rfl hml.1 hml.2 ?_
        refine x_is1 (q := 31) dX6_origins_30 rfl rfl ?_
        refine x_ii2 (q := 34) dX6_origins_31 rfl rfl ⟨by omega, by omega⟩ ?_
        refine x_goto (t := 4) dX6_origins_34 rfl ?_
        exact ih
set_option maxHeartbeats 4000000 in
set_option maxRecDepth 100000 in
theorem k_presentStates (hs : Ext sh) (hr : Rok rf) (hR : RC S rf v) (hV : SV S)  : Cv g mX6_presentStates [aR 0] (sh, rf, v) (retI (orT S (nS S.1.1)) (sh, rf, v)) := by
  obtain ⟨⟨n0, n1, n2, n3, n4⟩, nb, nn, nse, nw⟩ := hR.now
  obtain ⟨x0, x1, x2, x3, x4, x5⟩ := hR.2.1
  have hv := hV.1.1
  have hS := nS_rng hv
  have hd := nd_rng hv
  have hq := pw16 hv.2.2.2.1 hv.2.2.2.2
  have hvb : VBan (v 5 0) (v 5 1) (v 5 2) := by rw [n0, n1, n2]; exact hv.1
  obtain ⟨hvB, hp1, hp2, hq1, hq2⟩ := hv
  have hmk := mk_rng (Gd S.1.1) (nS S.1.1)
  refine x_entry (ls := [some (aR 0), none, none, none]) rfl rfl (Nat.le_of_ble_eq_true rfl) ?_
  refine x_ic (q := 1) dX6_presentStates_0 rfl rfl ?_
  refine x_is1 (q := 2) dX6_presentStates_1 rfl rfl ?_
  refine x_ic (q := 3) dX6_presentStates_2 rfl rfl ?_
  refine x_is2 (q := 4) dX6_presentStates_3 rfl rfl ?_
  refine x_up (S := fun s => ∀ o : Option AV, Wv g mX6_presentStates 0 0 4 [some (aR 0), some (aI (orT S s)), some (aI (s : Int)), o] [] (sh, rf, v) (retI (orT S (nS S.1.1)) (sh, rf, v))) (nS S.1.1) ?_ ?_ 0 (Nat.zero_le _) none
  · intro o
    refine x_il_n (q := 5) dX6_presentStates_4 rfl rfl ?_
    refine x_al_n (q := 6) dX6_presentStates_5 rfl rfl ?_
    refine x_getR (q := 9) (o := some (10)) dX6_presentStates_6 rfl fX6_33 (hs _ _ rfl) rfl (hr _ _ _ rfl) ?_
    refine x_getIe (q := 12) (z := (nS S.1.1 : Int)) dX6_presentStates_9 rfl fX6_99 (hs _ _ rfl) rfl (x0) ?_
    refine x_ic_ge (t := 39) (q := 15) dX6_presentStates_12 rfl rfl (fun c_12 => ?_) (fun c_12 => ?_)
    · skip
      refine x_il_n (q := 40) dX6_presentStates_39 rfl rfl ?_
      exact x_iret dX6_presentStates_40 rfl rfl (Nat.zero_le _) (retI_mk (by rfl))
    · skip
      exact absurd (Int.le_refl _) c_12
  · intro s hsn ih o
    have hor := orT_rng hV.1.1 s (by omega)
    have hse := seT_rng hV.1.1 hsn
    refine x_il_n (q := 5) dX6_presentStates_4 rfl rfl ?_
    refine x_al_n (q := 6) dX6_presentStates_5 rfl rfl ?_
    refine x_getR (q := 9) (o := some (10)) dX6_presentStates_6 rfl fX6_33 (hs _ _ rfl) rfl (hr _ _ _ rfl) ?_
    refine x_getIe (q := 12) (z := (nS S.1.1 : Int)) dX6_presentStates_9 rfl fX6_99 (hs _ _ rfl) rfl (x0) ?_
    refine x_ic_ge (t := 39) (q := 15) dX6_presentStates_12 rfl rfl (fun c_12 => ?_) (fun c_12 => ?_)
    · skip
      exact absurd c_12 (by omega)
    · skip
      refine x_al_n (q := 16) dX6_presentStates_15 rfl rfl ?_
      refine x_il_n (q := 17) dX6_presentStates_16 rfl rfl ?_
      refine x_VI (q := 20) (ci := 6) dX6_presentStates_17 rfl kX6_presentStates_223 (k_endOfSeen hs hr hR hV hsn) rfl rfl (hs _ _ rfl) (by decide) rfl (Nat.le_of_ble_eq_true rfl) ⟨rfl, rfl⟩ ⟨Nat.zero_le _, Nat.zero_le _⟩ ?_
      refine x_is3 (q := 21) dX6_presentStates_20 rfl rfl ?_
      refine x_il_n (q := 22) dX6_presentStates_21 rfl rfl ?_
      refine x_bi (q := 24) dX6_presentStates_22 rfl rfl ?_
      refine x_ic_eq (t := 33) (q := 27) dX6_presentStates_24 rfl rfl (fun c_24 => ?_) (fun c_24 => ?_)
      · skip
        have hO : orT S (s + 1) = orT S s := by show (if _ then _ else _) = _; rw [if_pos c_24]
        rw [hO] at ih
        refine x_ii2 (q := 36) dX6_presentStates_33 rfl rfl ⟨by omega, by omega⟩ ?_
        refine x_goto (t := 4) dX6_presentStates_36 rfl ?_
        exact ih _
      · skip
        have hO : orT S (s + 1) = (((orT S s).toNat ||| ((2 : Int) ^ (seT S s).toNat).toNat : Nat) : Int) := by show (if _ then _ else _) = _; rw [if_neg c_24]
        rw [hO] at ih
        refine x_il_n (q := 28) dX6_presentStates_27 rfl rfl ?_
        refine x_ic (q := 29) dX6_presentStates_28 rfl rfl ?_
        refine x_il_n (q := 30) dX6_presentStates_29 rfl rfl ?_
        refine x_pow (q := 31) dX6_presentStates_30 rfl (by omega) (by omega) ?_
        refine x_or (q := 32) dX6_presentStates_31 rfl hor.1 (Int.le_of_lt (pw_pos _)) ?_
        refine x_is1 (q := 33) dX6_presentStates_32 rfl rfl ?_
        refine x_ii2 (q := 36) dX6_presentStates_33 rfl rfl ⟨by omega, by omega⟩ ?_
        refine x_goto (t := 4) dX6_presentStates_36 rfl ?_
        exact ih _
set_option maxHeartbeats 4000000 in
set_option maxRecDepth 100000 in
theorem k_which (hs : Ext sh) (hr : Rok rf) (hR : RC S rf v) (hV : SV S) {k : Int} : Cv g mX6_which [aR 0, aI k] (sh, rf, v) (retI (a_which S k) (sh, rf, v)) := by
  obtain ⟨⟨n0, n1, n2, n3, n4⟩, nb, nn, nse, nw⟩ := hR.now
  obtain ⟨x0, x1, x2, x3, x4, x5⟩ := hR.2.1
  have hv := hV.1.1
  have hS := nS_rng hv
  have hd := nd_rng hv
  have hq := pw16 hv.2.2.2.1 hv.2.2.2.2
  have hvb : VBan (v 5 0) (v 5 1) (v 5 2) := by rw [n0, n1, n2]; exact hv.1
  obtain ⟨hvB, hp1, hp2, hq1, hq2⟩ := hv
  have hmk := mk_rng (Gd S.1.1) (nS S.1.1)
  refine x_entry (ls := [some (aR 0), some (aI k)]) rfl rfl (Nat.le_of_ble_eq_true rfl) ?_
  refine x_il_n (q := 1) dX6_which_0 rfl rfl ?_
  refine x_if_lt (t := 9) (q := 4) dX6_which_1 rfl rfl (fun c_1 => ?_) (fun c_1 => ?_)
  · skip
    refine x_ic (q := 10) dX6_which_9 rfl rfl ?_
    exact x_iret dX6_which_10 rfl rfl (Nat.zero_le _) (retI_mk (by first | (rw [a_which, if_pos (by omega)]; done) | (rw [a_which, if_neg (by omega), if_pos (by omega)]; done) | (rw [a_which, if_neg (by omega), if_neg (by omega)])))
  · skip
    refine x_il_n (q := 5) dX6_which_4 rfl rfl ?_
    refine x_ic (q := 6) dX6_which_5 rfl rfl ?_
    refine x_ic_le (t := 11) (q := 9) dX6_which_6 rfl rfl (fun c_6 => ?_) (fun c_6 => ?_)
    · skip
      refine x_il_n (q := 12) dX6_which_11 rfl rfl ?_
      refine x_if_ne (t := 22) (q := 15) dX6_which_12 rfl rfl (fun c_12 => ?_) (fun c_12 => ?_)
      · skip
        refine x_al_n (q := 23) dX6_which_22 rfl rfl ?_
        refine x_VI (q := 26) (ci := 6) dX6_which_23 rfl kX6_which_188 (k_presentStates hs hr hR hV) rfl rfl (hs _ _ rfl) (by decide) rfl (Nat.le_of_ble_eq_true rfl) ⟨rfl, rfl⟩ ⟨Nat.zero_le _, Nat.zero_le _⟩ ?_
        exact x_iret dX6_which_26 rfl rfl (Nat.zero_le _) (retI_mk (by first | (rw [a_which, if_pos (by omega)]; done) | (rw [a_which, if_neg (by omega), if_pos (by omega)]; done) | (rw [a_which, if_neg (by omega), if_neg (by omega)])))
      · skip
        refine x_al_n (q := 16) dX6_which_15 rfl rfl ?_
        refine x_VI (q := 19) (ci := 6) dX6_which_16 rfl kX6_which_185 (k_origins hs hr hR hV) rfl rfl (hs _ _ rfl) (by decide) rfl (Nat.le_of_ble_eq_true rfl) ⟨rfl, rfl⟩ ⟨Nat.zero_le _, Nat.zero_le _⟩ ?_
        refine x_goto (t := 26) dX6_which_19 rfl ?_
        exact x_iret dX6_which_26 rfl rfl (Nat.zero_le _) (retI_mk (by first | (rw [a_which, if_pos (by omega)]; done) | (rw [a_which, if_neg (by omega), if_pos (by omega)]; done) | (rw [a_which, if_neg (by omega), if_neg (by omega)])))
    · skip
      refine x_ic (q := 10) dX6_which_9 rfl rfl ?_
      exact x_iret dX6_which_10 rfl rfl (Nat.zero_le _) (retI_mk (by first | (rw [a_which, if_pos (by omega)]; done) | (rw [a_which, if_neg (by omega), if_pos (by omega)]; done) | (rw [a_which, if_neg (by omega), if_neg (by omega)])))
set_option maxHeartbeats 4000000 in
set_option maxRecDepth 100000 in
theorem k_ask (hs : Ext sh) (hr : Rok rf) (hR : RC S rf v) (hV : SV S)  : Cv g mX6_ask [aR 0] (sh, rf, v) (retI (a_ask S) (sh, rf, v)) := by
  obtain ⟨⟨n0, n1, n2, n3, n4⟩, nb, nn, nse, nw⟩ := hR.now
  obtain ⟨x0, x1, x2, x3, x4, x5⟩ := hR.2.1
  have hv := hV.1.1
  have hS := nS_rng hv
  have hd := nd_rng hv
  have hq := pw16 hv.2.2.2.1 hv.2.2.2.2
  have hvb : VBan (v 5 0) (v 5 1) (v 5 2) := by rw [n0, n1, n2]; exact hv.1
  obtain ⟨hvB, hp1, hp2, hq1, hq2⟩ := hv
  have hmk := mk_rng (Gd S.1.1) (nS S.1.1)
  have hor := orT_rng hV.1.1 (nS S.1.1) (Nat.le_refl _)
  refine x_entry (ls := [some (aR 0), none, none, none, none, none]) rfl rfl (Nat.le_of_ble_eq_true rfl) ?_
  refine x_al_n (q := 1) dX6_ask_0 rfl rfl ?_
  refine x_VI (q := 4) (ci := 6) dX6_ask_1 rfl kX6_ask_188 (k_presentStates hs hr hR hV) rfl rfl (hs _ _ rfl) (by decide) rfl (Nat.le_of_ble_eq_true rfl) ⟨rfl, rfl⟩ ⟨Nat.zero_le _, Nat.zero_le _⟩ ?_
  refine x_is1 (q := 5) dX6_ask_4 rfl rfl ?_
  refine x_il_n (q := 6) dX6_ask_5 rfl rfl ?_
  refine x_SI (q := 9) dX6_ask_6 rfl kX6_ask_191 (c_bitCount hor.1 hor.2) rfl rfl (Nat.le_of_ble_eq_true rfl) ⟨rfl, rfl⟩ ⟨Nat.zero_le _, Nat.zero_le _⟩ ?_
  refine x_ic (q := 10) dX6_ask_9 rfl rfl ?_
  refine x_ic_ge (t := 16) (q := 13) dX6_ask_10 rfl rfl (fun c_10 => ?_) (fun c_10 => ?_)
  · skip
    have hG : a_ask S = (bst S (orT S (nS S.1.1)) (nd S.1.1).toNat).1 := by unfold a_ask; rw [if_neg (by omega)]
    rw [hG]
    refine x_bi (q := 18) dX6_ask_16 rfl rfl ?_
    refine x_is2 (q := 19) dX6_ask_18 rfl rfl ?_
    refine x_bi (q := 21) dX6_ask_19 rfl rfl ?_
    refine x_is3 (q := 22) dX6_ask_21 rfl rfl ?_
    refine x_ic (q := 23) dX6_ask_22 rfl rfl ?_
    refine x_is4 (q := 25) dX6_ask_23 rfl rfl ?_
    refine x_up (S := fun t => ∀ o : Option AV, Wv g mX6_ask 0 0 25 [some (aR 0), some (aI (orT S (nS S.1.1))), some (aI (bst S (orT S (nS S.1.1)) t).1), some (aI (bst S (orT S (nS S.1.1)) t).2), some (aI (t : Int)), o] [] (sh, rf, v) (retI (bst S (orT S (nS S.1.1)) (nd S.1.1).toNat).1 (sh, rf, v))) (nd S.1.1).toNat ?_ ?_ 0 (Nat.zero_le _) none
    · intro o
      refine x_il (q := 27) dX6_ask_25 rfl rfl ?_
      refine x_al_n (q := 28) dX6_ask_27 rfl rfl ?_
      refine x_getR (q := 31) (o := some (4)) dX6_ask_28 rfl fX6_26 (hs _ _ rfl) rfl (hr _ _ _ rfl) ?_
      refine x_getR (q := 34) (o := some (5)) dX6_ask_31 rfl fX6_59 (hs _ _ rfl) rfl (hr _ _ _ rfl) ?_
      refine x_VI (q := 37) (ci := 1) dX6_ask_34 rfl kX6_ask_102 (c_tagCount (c := 5) (hs _ _ rfl) (by rw [n3]; omega) (by rw [n3]; omega)) rfl rfl (hs _ _ rfl) (by decide) rfl (Nat.le_of_ble_eq_true rfl) ⟨rfl, rfl⟩ ⟨Nat.zero_le _, Nat.zero_le _⟩ ?_
      rw [show (2 : Int) ^ (v 5 3).toNat = nd S.1.1 by rw [n3]; rfl]
      refine x_ic_ge (t := 70) (q := 40) dX6_ask_37 rfl rfl (fun c_37 => ?_) (fun c_37 => ?_)
      · skip
        refine x_il_n (q := 71) dX6_ask_70 rfl rfl ?_
        exact x_iret dX6_ask_71 rfl rfl (Nat.zero_le _) (retI_mk (by rfl))
      · skip
        exact absurd (by omega) c_37
    · intro t ht ih o
      refine x_il (q := 27) dX6_ask_25 rfl rfl ?_
      refine x_al_n (q := 28) dX6_ask_27 rfl rfl ?_
      refine x_getR (q := 31) (o := some (4)) dX6_ask_28 rfl fX6_26 (hs _ _ rfl) rfl (hr _ _ _ rfl) ?_
      refine x_getR (q := 34) (o := some (5)) dX6_ask_31 rfl fX6_59 (hs _ _ rfl) rfl (hr _ _ _ rfl) ?_
      refine x_VI (q := 37) (ci := 1) dX6_ask_34 rfl kX6_ask_102 (c_tagCount (c := 5) (hs _ _ rfl) (by rw [n3]; omega) (by rw [n3]; omega)) rfl rfl (hs _ _ rfl) (by decide) rfl (Nat.le_of_ble_eq_true rfl) ⟨rfl, rfl⟩ ⟨Nat.zero_le _, Nat.zero_le _⟩ ?_
      rw [show (2 : Int) ^ (v 5 3).toNat = nd S.1.1 by rw [n3]; rfl]
      refine x_ic_ge (t := 70) (q := 40) dX6_ask_37 rfl rfl (fun c_37 => ?_) (fun c_37 => ?_)
      · skip
        exact absurd c_37 (by omega)
      · skip
        refine x_al_n (q := 41) dX6_ask_40 rfl rfl ?_
        refine x_getR (q := 44) (o := some (10)) dX6_ask_41 rfl fX6_33 (hs _ _ rfl) rfl (hr _ _ _ rfl) ?_
        refine x_il_n (q := 45) dX6_ask_44 rfl rfl ?_
        refine x_il (q := 47) dX6_ask_45 rfl rfl ?_
        refine x_VI (q := 50) (ci := 0) dX6_ask_47 rfl kX6_ask_196 (c_mostAlike hs hr hor.1 x5 x0 hS.2.1) rfl rfl (hs _ _ rfl) (by decide) rfl (Nat.le_of_ble_eq_true rfl) ⟨rfl, rfl⟩ ⟨Nat.zero_le _, Nat.zero_le _⟩ ?_
        rw [show mostA (fun s => hasB (orT S (nS S.1.1)) s) (fun s => cnt (fun s2 => hasB (orT S (nS S.1.1)) s2 && decide (wwT (tT S.1.1) s2 t = wwT (tT S.1.1) s t)) (nS S.1.1)) (nS S.1.1) = moA S (orT S (nS S.1.1)) t from rfl]
        refine x_is5 (q := 52) dX6_ask_50 rfl rfl ?_
        refine x_il (q := 54) dX6_ask_52 rfl rfl ?_
        refine x_il_n (q := 55) dX6_ask_54 rfl rfl ?_
        refine x_ic_ge (t := 64) (q := 58) dX6_ask_55 rfl rfl (fun c_55 => ?_) (fun c_55 => ?_)
        · skip
          have hB : bst S (orT S (nS S.1.1)) (t + 1) = bst S (orT S (nS S.1.1)) t := by show (if _ then _ else _) = _; rw [if_neg (by omega)]
          rw [hB] at ih
          refine x_ii4 (q := 67) dX6_ask_64 rfl rfl ⟨by omega, by omega⟩ ?_
          refine x_goto (t := 25) dX6_ask_67 rfl ?_
          exact ih _
        · skip
          have hB : bst S (orT S (nS S.1.1)) (t + 1) = ((t : Int), moA S (orT S (nS S.1.1)) t) := by show (if _ then _ else _) = _; rw [if_pos (by omega)]
          rw [hB] at ih
          refine x_il (q := 60) dX6_ask_58 rfl rfl ?_
          refine x_is3 (q := 61) dX6_ask_60 rfl rfl ?_
          refine x_il (q := 63) dX6_ask_61 rfl rfl ?_
          refine x_is2 (q := 64) dX6_ask_63 rfl rfl ?_
          refine x_ii4 (q := 67) dX6_ask_64 rfl rfl ⟨by omega, by omega⟩ ?_
          refine x_goto (t := 25) dX6_ask_67 rfl ?_
          exact ih _
  · skip
    have hG : a_ask S = -9 := by unfold a_ask; rw [if_pos (by omega)]
    refine x_bi (q := 15) dX6_ask_13 rfl rfl ?_
    exact x_iret dX6_ask_15 rfl rfl (Nat.zero_le _) (retI_mk (by rw [hG]))
theorem tbits_S {H : Hd} {u : Nat → Nat → Int} (h : ∀ i, i < H.2.1 → u 7 i = H.2.2.1 i ∧ u 8 i = H.2.2.2.1 i ∧ u 9 i = H.2.2.2.2.1 i) : ∀ k, k ≤ H.2.1 → tbits u 6 k = tbS H k
  | 0, _ => rfl
  | k + 1, hk => by
    have h1 := h k (by omega)
    show tbits u 6 k + pcnt (((u 7 k).toNat ^^^ (u 8 k).toNat : Nat) : Int) = tbS H k + _
    rw [tbits_S h k (by omega), h1.1, h1.2.1]
set_option maxHeartbeats 4000000 in
set_option maxRecDepth 100000 in
theorem k_count (hs : Ext sh) (hr : Rok rf) (hR : RC S rf v) (hV : SV S) {k : Int} : Cv g mX6_count [aR 0, aI k] (sh, rf, v) (retI (a_count S k) (sh, rf, v)) := by
  obtain ⟨⟨n0, n1, n2, n3, n4⟩, nb, nn, nse, nw⟩ := hR.now
  obtain ⟨x0, x1, x2, x3, x4, x5⟩ := hR.2.1
  have hv := hV.1.1
  have hS := nS_rng hv
  have hd := nd_rng hv
  have hq := pw16 hv.2.2.2.1 hv.2.2.2.2
  have hvb : VBan (v 5 0) (v 5 1) (v 5 2) := by rw [n0, n1, n2]; exact hv.1
  obtain ⟨hvB, hp1, hp2, hq1, hq2⟩ := hv
  have hmk := mk_rng (Gd S.1.1) (nS S.1.1)
  have hn24 := hV.1.2.1
  refine x_entry (ls := [some (aR 0), some (aI k)]) rfl rfl (Nat.le_of_ble_eq_true rfl) ?_
  refine x_il_n (q := 1) dX6_count_0 rfl rfl ?_
  rcases (show (k < 0 ∨ 12 < k) ∨ k = 0 ∨ k = 1 ∨ k = 2 ∨ k = 3 ∨ k = 4 ∨ k = 5 ∨ k = 6 ∨ k = 7 ∨ k = 8 ∨ k = 9 ∨ k = 10 ∨ k = 11 ∨ k = 12 by omega) with hk | rfl | rfl | rfl | rfl | rfl | rfl | rfl | rfl | rfl | rfl | rfl | rfl | rfl
  · refine x_tabO (t := 184) dX6_count_1 hk rfl ?_
    refine x_ic (q := 185) dX6_count_184 rfl rfl ?_
    exact x_iret dX6_count_185 rfl rfl (Nat.zero_le _) (retI_mk (by unfold a_count; repeat rw [if_neg (by omega)]))
  · refine x_tabI (t := 68) (off := 67) dX6_count_1 (by decide) (by decide) rfl rfl ?_
    refine x_al_n (q := 69) dX6_count_68 rfl rfl ?_
    refine x_getR (q := 72) (o := some (10)) dX6_count_69 rfl fX6_33 (by first | exact hs _ _ rfl | exact line6 hs hr) rfl (hr _ _ _ rfl) ?_
    refine x_getIe (q := 75) (z := (nS S.1.1 : Int)) dX6_count_72 rfl fX6_99 (by first | exact hs _ _ rfl | exact line6 hs hr) rfl (x0) ?_
    exact x_iret dX6_count_75 rfl rfl (Nat.zero_le _) (retI_mk (by rfl))
  · refine x_tabI (t := 76) (off := 75) dX6_count_1 (by decide) (by decide) rfl rfl ?_
    refine x_al_n (q := 77) dX6_count_76 rfl rfl ?_
    refine x_getR (q := 80) (o := some (4)) dX6_count_77 rfl fX6_26 (by first | exact hs _ _ rfl | exact line6 hs hr) rfl (hr _ _ _ rfl) ?_
    refine x_getR (q := 83) (o := some (5)) dX6_count_80 rfl fX6_59 (by first | exact hs _ _ rfl | exact line6 hs hr) rfl (hr _ _ _ rfl) ?_
    refine x_VI (q := 86) (ci := 1) dX6_count_83 rfl kX6_count_204 (c_start (c := 5) (hs _ _ rfl)) rfl rfl (by first | exact hs _ _ rfl | exact line6 hs hr) (by decide) rfl (Nat.le_of_ble_eq_true rfl) ⟨rfl, rfl⟩ ⟨Nat.zero_le _, Nat.zero_le _⟩ ?_
    rw [show (if v 5 0 = 1 then v 5 1 else 0) = stt S.1.1.1 S.1.1.2.1 by rw [n0, n1]; rfl]
    exact x_iret dX6_count_86 rfl rfl (Nat.zero_le _) (retI_mk (by rfl))
  · refine x_tabI (t := 87) (off := 86) dX6_count_1 (by decide) (by decide) rfl rfl ?_
    refine x_al_n (q := 88) dX6_count_87 rfl rfl ?_
    refine x_getR (q := 91) (o := some (4)) dX6_count_88 rfl fX6_26 (by first | exact hs _ _ rfl | exact line6 hs hr) rfl (hr _ _ _ rfl) ?_
    refine x_getR (q := 94) (o := some (5)) dX6_count_91 rfl fX6_59 (by first | exact hs _ _ rfl | exact line6 hs hr) rfl (hr _ _ _ rfl) ?_
    refine x_getIe (q := 97) (z := S.1.1.2.2.2.1) dX6_count_94 rfl fX6_156 (by first | exact hs _ _ rfl | exact line6 hs hr) rfl (n3) ?_
    exact x_iret dX6_count_97 rfl rfl (Nat.zero_le _) (retI_mk (by rfl))
  · refine x_tabI (t := 98) (off := 97) dX6_count_1 (by decide) (by decide) rfl rfl ?_
    refine x_al_n (q := 99) dX6_count_98 rfl rfl ?_
    refine x_getR (q := 102) (o := some (4)) dX6_count_99 rfl fX6_26 (by first | exact hs _ _ rfl | exact line6 hs hr) rfl (hr _ _ _ rfl) ?_
    refine x_getR (q := 105) (o := some (5)) dX6_count_102 rfl fX6_59 (by first | exact hs _ _ rfl | exact line6 hs hr) rfl (hr _ _ _ rfl) ?_
    refine x_getIe (q := 108) (z := S.1.1.2.2.2.2) dX6_count_105 rfl fX6_123 (by first | exact hs _ _ rfl | exact line6 hs hr) rfl (n4) ?_
    exact x_iret dX6_count_108 rfl rfl (Nat.zero_le _) (retI_mk (by rfl))
  · refine x_tabI (t := 109) (off := 108) dX6_count_1 (by decide) (by decide) rfl rfl ?_
    refine x_al_n (q := 110) dX6_count_109 rfl rfl ?_
    refine x_getR (q := 113) (o := some (10)) dX6_count_110 rfl fX6_33 (by first | exact hs _ _ rfl | exact line6 hs hr) rfl (hr _ _ _ rfl) ?_
    refine x_getIe (q := 116) (z := mk (Gd S.1.1) (nS S.1.1)) dX6_count_113 rfl fX6_106 (by first | exact hs _ _ rfl | exact line6 hs hr) rfl (x1) ?_
    exact x_iret dX6_count_116 rfl rfl (Nat.zero_le _) (retI_mk (by rfl))
  · refine x_tabI (t := 117) (off := 116) dX6_count_1 (by decide) (by decide) rfl rfl ?_
    refine x_al_n (q := 118) dX6_count_117 rfl rfl ?_
    refine x_getR (q := 121) (o := some (10)) dX6_count_118 rfl fX6_33 (by first | exact hs _ _ rfl | exact line6 hs hr) rfl (hr _ _ _ rfl) ?_
    refine x_getIe (q := 124) (z := Bg S.1.1) dX6_count_121 rfl fX6_70 (by first | exact hs _ _ rfl | exact line6 hs hr) rfl (x2) ?_
    exact x_iret dX6_count_124 rfl rfl (Nat.zero_le _) (retI_mk (by rfl))
  · refine x_tabI (t := 125) (off := 124) dX6_count_1 (by decide) (by decide) rfl rfl ?_
    refine x_al_n (q := 126) dX6_count_125 rfl rfl ?_
    refine x_getR (q := 129) (o := some (4)) dX6_count_126 rfl fX6_26 (by first | exact hs _ _ rfl | exact line6 hs hr) rfl (hr _ _ _ rfl) ?_
    refine x_getR (q := 132) (o := some (6)) dX6_count_129 rfl fX6_66 (by first | exact hs _ _ rfl | exact line6 hs hr) rfl (hr _ _ _ rfl) ?_
    refine x_getIe (q := 135) (z := S.1.2.2.2.2.2) dX6_count_132 rfl fX6_110 (by first | exact hs _ _ rfl | exact line6 hs hr) rfl (nse) ?_
    exact x_iret dX6_count_135 rfl rfl (Nat.zero_le _) (retI_mk (by rfl))
  · refine x_tabI (t := 136) (off := 135) dX6_count_1 (by decide) (by decide) rfl rfl ?_
    refine x_al_n (q := 137) dX6_count_136 rfl rfl ?_
    refine x_getR (q := 140) (o := some (10)) dX6_count_137 rfl fX6_33 (by first | exact hs _ _ rfl | exact line6 hs hr) rfl (hr _ _ _ rfl) ?_
    refine x_getIe (q := 143) (z := Wn S.1.1) dX6_count_140 rfl fX6_207 (by first | exact hs _ _ rfl | exact line6 hs hr) rfl (x3) ?_
    exact x_iret dX6_count_143 rfl rfl (Nat.zero_le _) (retI_mk (by rfl))
  · refine x_tabI (t := 144) (off := 143) dX6_count_1 (by decide) (by decide) rfl rfl ?_
    refine x_al_n (q := 145) dX6_count_144 rfl rfl ?_
    refine x_getR (q := 148) (o := some (4)) dX6_count_145 rfl fX6_26 (by first | exact hs _ _ rfl | exact line6 hs hr) rfl (hr _ _ _ rfl) ?_
    refine x_getR (q := 151) (o := some (6)) dX6_count_148 rfl fX6_66 (by first | exact hs _ _ rfl | exact line6 hs hr) rfl (hr _ _ _ rfl) ?_
    refine x_getIe (q := 154) (z := (S.1.2.1 : Int)) dX6_count_151 rfl fX6_109 (by first | exact hs _ _ rfl | exact line6 hs hr) rfl (nn) ?_
    exact x_iret dX6_count_154 rfl rfl (Nat.zero_le _) (retI_mk (by rfl))
  · refine x_tabI (t := 155) (off := 154) dX6_count_1 (by decide) (by decide) rfl rfl ?_
    refine x_al_n (q := 156) dX6_count_155 rfl rfl ?_
    refine x_getR (q := 159) (o := some (4)) dX6_count_156 rfl fX6_26 (by first | exact hs _ _ rfl | exact line6 hs hr) rfl (hr _ _ _ rfl) ?_
    refine x_getR (q := 162) (o := some (6)) dX6_count_159 rfl fX6_66 (by first | exact hs _ _ rfl | exact line6 hs hr) rfl (hr _ _ _ rfl) ?_
    refine x_VI (q := 165) (ci := 3) dX6_count_162 rfl kX6_count_210 (c_turnedBits (line6 hs hr) (by rw [nn]; omega) (by rw [nn]; omega) (fun j hj => by rw [nn] at hj; have h16 := hV.1.w16 (i := j) (by omega); rw [(nw j (by omega)).1, (nw j (by omega)).2.1]; exact h16)) rfl rfl (by first | exact hs _ _ rfl | exact line6 hs hr) (by decide) rfl (Nat.le_of_ble_eq_true rfl) ⟨rfl, rfl⟩ ⟨Nat.zero_le _, Nat.zero_le _⟩ ?_
    rw [nn, Int.toNat_natCast, tbits_S nw _ (Nat.le_refl _)]
    exact x_iret dX6_count_165 rfl rfl (Nat.zero_le _) (retI_mk (by rfl))
  · refine x_tabI (t := 166) (off := 165) dX6_count_1 (by decide) (by decide) rfl rfl ?_
    refine x_al_n (q := 167) dX6_count_166 rfl rfl ?_
    refine x_getIe (q := 170) (z := (S.2.2.2.1.1 : Int)) dX6_count_167 rfl fX6_96 (by first | exact hs _ _ rfl | exact line6 hs hr) rfl (hR.2.2.2.2.2.1.1) ?_
    exact x_iret dX6_count_170 rfl rfl (Nat.zero_le _) (retI_mk (by rfl))
  · refine x_tabI (t := 171) (off := 170) dX6_count_1 (by decide) (by decide) rfl rfl ?_
    refine x_al_n (q := 172) dX6_count_171 rfl rfl ?_
    refine x_getR (q := 175) (o := some (1)) dX6_count_172 rfl fX6_10 (by first | exact hs _ _ rfl | exact line6 hs hr) rfl (hr _ _ _ rfl) ?_
    refine x_getIe (q := 178) (z := (S.2.2.2.2.1 : Int)) dX6_count_175 rfl fX6_80 (by first | exact hs _ _ rfl | exact line6 hs hr) rfl (hR.2.2.2.2.2.2.1) ?_
    exact x_iret dX6_count_178 rfl rfl (Nat.zero_le _) (retI_mk (by rfl))
  · refine x_tabI (t := 179) (off := 178) dX6_count_1 (by decide) (by decide) rfl rfl ?_
    refine x_al_n (q := 180) dX6_count_179 rfl rfl ?_
    refine x_getIe (q := 183) (z := (S.2.1.length : Int)) dX6_count_180 rfl fX6_129 (by first | exact hs _ _ rfl | exact line6 hs hr) rfl (hR.2.2.2.1) ?_
    exact x_iret dX6_count_183 rfl rfl (Nat.zero_le _) (retI_mk (by rfl))
set_option maxHeartbeats 4000000 in
set_option maxRecDepth 100000 in
theorem k_sees (hs : Ext sh) (hr : Rok rf) (hR : RC S rf v) (hV : SV S) {w : Int} : Cv g mX6_sees [aR 0, aI w] (sh, rf, v) (cP (o_sees S w) sh rf v) := by
  obtain ⟨⟨n0, n1, n2, n3, n4⟩, nb, nn, nse, nw⟩ := hR.now
  obtain ⟨x0, x1, x2, x3, x4, x5⟩ := hR.2.1
  have hv := hV.1.1
  have hS := nS_rng hv
  have hd := nd_rng hv
  have hq := pw16 hv.2.2.2.1 hv.2.2.2.2
  have hvb : VBan (v 5 0) (v 5 1) (v 5 2) := by rw [n0, n1, n2]; exact hv.1
  obtain ⟨hvB, hp1, hp2, hq1, hq2⟩ := hv
  have hmk := mk_rng (Gd S.1.1) (nS S.1.1)
  obtain ⟨sm, sf⟩ := hR.2.2.2.2.2.1
  have h6 := hV.2.2.2.2.2.1.1
  refine x_entry (ls := [some (aR 0), some (aI w)]) rfl rfl (Nat.le_of_ble_eq_true rfl) ?_
  refine x_al_n (q := 1) dX6_sees_0 rfl rfl ?_
  refine x_il_n (q := 2) dX6_sees_1 rfl rfl ?_
  refine x_VI (q := 5) (ci := 6) dX6_sees_2 rfl kX6_sees_143 (k_isNoWord hs hr hR hV) rfl rfl (hs _ _ rfl) (by decide) rfl (Nat.le_of_ble_eq_true rfl) ⟨rfl, rfl⟩ ⟨Nat.zero_le _, Nat.zero_le _⟩ ?_
  refine x_if_eq (t := 10) (q := 8) dX6_sees_5 rfl rfl (fun c_5 => ?_) (fun c_5 => ?_)
  · skip
    have d_5 := of_decide_eq_false (b2i_0.mp c_5)
    refine x_al_n (q := 11) dX6_sees_10 rfl rfl ?_
    refine x_getIe (q := 14) (z := (S.2.2.2.1.1 : Int)) dX6_sees_11 rfl fX6_96 (hs _ _ rfl) rfl (sm) ?_
    refine x_if_lt (t := 26) (q := 17) dX6_sees_14 rfl rfl (fun c_14 => ?_) (fun c_14 => ?_)
    · skip
      exact absurd c_14 (by omega)
    · skip
      refine x_al_n (q := 18) dX6_sees_17 rfl rfl ?_
      refine x_getIe (q := 21) (z := (S.2.2.2.1.1 : Int)) dX6_sees_18 rfl fX6_96 (hs _ _ rfl) rfl (sm) ?_
      refine x_bi (q := 23) dX6_sees_21 rfl rfl ?_
      refine x_ic_lt (t := 29) (q := 26) dX6_sees_23 rfl rfl (fun c_23 => ?_) (fun c_23 => ?_)
      · skip
        refine x_al_n (q := 30) dX6_sees_29 rfl rfl ?_
        refine x_getR (q := 33) (o := some (69)) dX6_sees_30 rfl fX6_55 (hs _ _ rfl) rfl (hr _ _ _ rfl) ?_
        refine x_al_n (q := 34) dX6_sees_33 rfl rfl ?_
        refine x_getIe (q := 37) (z := (S.2.2.2.1.1 : Int)) dX6_sees_34 rfl fX6_96 (hs _ _ rfl) rfl (sm) ?_
        refine x_il_n (q := 38) dX6_sees_37 rfl rfl ?_
        refine x_iast (q := 39) dX6_sees_38 rfl (hs _ _ rfl) (by omega) (by omega) ?_
        refine x_al_n (q := 40) dX6_sees_39 rfl rfl ?_
        refine x_dup (q := 41) dX6_sees_40 rfl rfl ?_
        refine x_getIe (q := 44) (z := (S.2.2.2.1.1 : Int)) dX6_sees_41 rfl fX6_96 (hs _ _ rfl) rfl (by rw [up_n _ _ _ (by decide)]; exact sm) ?_
        refine x_ic (q := 45) dX6_sees_44 rfl rfl ?_
        refine x_add (q := 46) dX6_sees_45 rfl ⟨by omega, by omega⟩ ?_
        refine x_putI (q := 49) dX6_sees_46 rfl fX6_96 (hs _ _ rfl) (.inl rfl) rfl ?_
        refine x_al_n (q := 50) dX6_sees_49 rfl rfl ?_
        refine x_getIe (q := 53) (z := (S.2.2.2.1.1 : Int) + 1) dX6_sees_50 rfl fX6_96 (hs _ _ rfl) rfl (by rw [up_at, if_pos rfl]) ?_
        have hO : o_sees S w = ((S.2.2.2.1.1 : Int) + 1, S.1, S.2.1, S.2.2.1, (S.2.2.2.1.1 + 1, upx S.2.2.2.1.2 S.2.2.2.1.1 w), S.2.2.2.2) := by unfold o_sees; rw [if_neg (by omega), if_neg (by omega)]
        rw [hO]
        refine x_iret dX6_sees_53 rfl rfl (Nat.zero_le _) ⟨rfl, rf, _, rfl, hr, ?_, ?_, fun d hd => ⟨by rw [up_n _ _ _ (by omega), up_n _ _ _ (by omega)], rfl⟩⟩
        · refine RCo_cong hR hV.2.1 (fun d h4 h69 => by rw [up_n _ _ _ (by omega), up_n _ _ _ (by omega)]) (by rw [up_at, if_neg (by decide), up_n _ _ _ (by decide)]) rfl rfl rfl ⟨by rw [up_at, if_pos rfl]; rfl, fun i hi => ?_⟩ ⟨by rw [up_n _ _ _ (by decide), up_n _ _ _ (by decide)]; exact hR.2.2.2.2.2.2.1, fun i hi => by rw [up_n _ _ _ (by decide), up_n _ _ _ (by decide)]; exact hR.2.2.2.2.2.2.2 i hi⟩
          rw [up_n _ _ _ (by decide), up_at]
          show _ = upx S.2.2.2.1.2 S.2.2.2.1.1 w i
          unfold upx
          by_cases he : i = S.2.2.2.1.1
          · rw [if_pos (by omega), if_pos he]
          · rw [if_neg (by omega), if_neg he]
            have hi2 : i < S.2.2.2.1.1 + 1 := hi
            exact sf i (by omega)
        · obtain ⟨v1, v2, v3, v4, v5, ⟨v6, v7⟩, v8⟩ := hV
          refine ⟨v1, v2, v3, v4, v5, ⟨?_, fun i hi => ?_⟩, v8⟩
          · show S.2.2.2.1.1 + 1 ≤ 6; omega
          · show 0 ≤ upx S.2.2.2.1.2 S.2.2.2.1.1 w i ∧ upx S.2.2.2.1.2 S.2.2.2.1.1 w i < 16
            unfold upx
            have hi2 : i < S.2.2.2.1.1 + 1 := hi
            split
            · omega
            · exact v7 i (by omega)
      · skip
        refine x_bi (q := 28) dX6_sees_26 rfl rfl ?_
        exact x_iret dX6_sees_28 rfl rfl (Nat.zero_le _) (cP_same hr hR hV (by rw [o_sees, if_neg (by omega), if_pos (by omega)]) (by rw [o_sees, if_neg (by omega), if_pos (by omega)]))
  · skip
    have d_5 := of_decide_eq_true (b2i_n0.mp c_5)
    refine x_ic (q := 9) dX6_sees_8 rfl rfl ?_
    exact x_iret dX6_sees_9 rfl rfl (Nat.zero_le _) (cP_same hr hR hV (by rw [o_sees, if_pos (by omega)]) (by rw [o_sees, if_pos (by omega)]))
set_option maxHeartbeats 4000000 in
set_option maxRecDepth 100000 in
theorem k_forget (hs : Ext sh) (hr : Rok rf) (hR : RC S rf v) (hV : SV S)  : Cv g mX6_forget [aR 0] (sh, rf, v) (cP (o_forget S) sh rf v) := by
  obtain ⟨⟨n0, n1, n2, n3, n4⟩, nb, nn, nse, nw⟩ := hR.now
  obtain ⟨x0, x1, x2, x3, x4, x5⟩ := hR.2.1
  have hv := hV.1.1
  have hS := nS_rng hv
  have hd := nd_rng hv
  have hq := pw16 hv.2.2.2.1 hv.2.2.2.2
  have hvb : VBan (v 5 0) (v 5 1) (v 5 2) := by rw [n0, n1, n2]; exact hv.1
  obtain ⟨hvB, hp1, hp2, hq1, hq2⟩ := hv
  have hmk := mk_rng (Gd S.1.1) (nS S.1.1)
  obtain ⟨sm, sf⟩ := hR.2.2.2.2.2.1
  refine x_entry (ls := [some (aR 0), none]) rfl rfl (Nat.le_of_ble_eq_true rfl) ?_
  refine x_al_n (q := 1) dX6_forget_0 rfl rfl ?_
  refine x_getIe (q := 4) (z := (S.2.2.2.1.1 : Int)) dX6_forget_1 rfl fX6_96 (hs _ _ rfl) rfl (sm) ?_
  refine x_is1 (q := 5) dX6_forget_4 rfl rfl ?_
  refine x_al_n (q := 6) dX6_forget_5 rfl rfl ?_
  refine x_ic (q := 7) dX6_forget_6 rfl rfl ?_
  refine x_putI (q := 10) dX6_forget_7 rfl fX6_96 (hs _ _ rfl) (.inl rfl) rfl ?_
  refine x_il_n (q := 11) dX6_forget_10 rfl rfl ?_
  refine x_iret dX6_forget_11 rfl rfl (Nat.zero_le _) ⟨rfl, rf, _, rfl, hr, ?_, ?_, fun d hd => ⟨by rw [up_n _ _ _ (by omega)], rfl⟩⟩
  · refine RCo_cong hR hV.2.1 (fun d h4 h69 => by rw [up_n _ _ _ (by omega)]) (by rw [up_at, if_neg (by decide)]) rfl rfl rfl ⟨by rw [up_at, if_pos rfl]; rfl, fun i hi => absurd hi (Nat.not_lt_zero _)⟩ ⟨by rw [up_n _ _ _ (by decide)]; exact hR.2.2.2.2.2.2.1, fun i hi => by rw [up_n _ _ _ (by decide)]; exact hR.2.2.2.2.2.2.2 i hi⟩
  · obtain ⟨v1, v2, v3, v4, v5, ⟨v6, v7⟩, v8⟩ := hV
    exact ⟨v1, v2, v3, v4, v5, ⟨Nat.zero_le _, fun i hi => absurd hi (Nat.not_lt_zero _)⟩, v8⟩
set_option maxHeartbeats 4000000 in
set_option maxRecDepth 100000 in
theorem k_type (hs : Ext sh) (hr : Rok rf) (hR : RC S rf v) (hV : SV S) {x : Int} : Cv g mX6_type [aR 0, aI x] (sh, rf, v) (cP (o_type S x) sh rf v) := by
  obtain ⟨⟨n0, n1, n2, n3, n4⟩, nb, nn, nse, nw⟩ := hR.now
  obtain ⟨x0, x1, x2, x3, x4, x5⟩ := hR.2.1
  have hv := hV.1.1
  have hS := nS_rng hv
  have hd := nd_rng hv
  have hq := pw16 hv.2.2.2.1 hv.2.2.2.2
  have hvb : VBan (v 5 0) (v 5 1) (v 5 2) := by rw [n0, n1, n2]; exact hv.1
  obtain ⟨hvB, hp1, hp2, hq1, hq2⟩ := hv
  have hmk := mk_rng (Gd S.1.1) (nS S.1.1)
  obtain ⟨tm, tf⟩ := hR.2.2.2.2.2.2
  have h60 := hV.2.2.2.2.2.2.1
  refine x_entry (ls := [some (aR 0), some (aI x)]) rfl rfl (Nat.le_of_ble_eq_true rfl) ?_
  refine x_il_n (q := 1) dX6_type_0 rfl rfl ?_
  refine x_if_lt (t := 11) (q := 4) dX6_type_1 rfl rfl (fun c_1 => ?_) (fun c_1 => ?_)
  · skip
    refine x_ic (q := 12) dX6_type_11 rfl rfl ?_
    exact x_iret dX6_type_12 rfl rfl (Nat.zero_le _) (cP_same hr hR hV (by rw [o_type, if_pos (by omega)]) (by rw [o_type, if_pos (by omega)]))
  · skip
    refine x_il_n (q := 5) dX6_type_4 rfl rfl ?_
    refine x_si (q := 8) dX6_type_5 rfl rfl ?_
    refine x_ic_le (t := 13) (q := 11) dX6_type_8 rfl rfl (fun c_8 => ?_) (fun c_8 => ?_)
    · skip
      refine x_al_n (q := 14) dX6_type_13 rfl rfl ?_
      refine x_getR (q := 17) (o := some (1)) dX6_type_14 rfl fX6_10 (hs _ _ rfl) rfl (hr _ _ _ rfl) ?_
      refine x_getIe (q := 20) (z := (S.2.2.2.2.1 : Int)) dX6_type_17 rfl fX6_80 (hs _ _ rfl) rfl (tm) ?_
      refine x_bi (q := 22) dX6_type_20 rfl rfl ?_
      refine x_ic_lt (t := 28) (q := 25) dX6_type_22 rfl rfl (fun c_22 => ?_) (fun c_22 => ?_)
      · skip
        refine x_al_n (q := 29) dX6_type_28 rfl rfl ?_
        refine x_getR (q := 32) (o := some (1)) dX6_type_29 rfl fX6_10 (hs _ _ rfl) rfl (hr _ _ _ rfl) ?_
        refine x_il_n (q := 33) dX6_type_32 rfl rfl ?_
        refine x_V (q := 36) (ci := 5) dX6_type_33 rfl kX6_type_83 (c_textAppend hs hr (z := x) (by rw [tm]; omega) (by rw [tm]; omega)) rfl rfl (hs _ _ rfl) (by decide) rfl (Nat.le_of_ble_eq_true rfl) ⟨rfl, rfl⟩ ⟨Nat.zero_le _, Nat.zero_le _⟩ (fun r1 h1 hp => ?_)
        obtain ⟨rfl, rfl⟩ := hp
        refine x_al_n (q := 37) dX6_type_36 rfl rfl ?_
        refine x_getR (q := 40) (o := some (1)) dX6_type_37 rfl fX6_10 (hs _ _ rfl) rfl (hr _ _ _ rfl) ?_
        refine x_getIe (q := 43) (z := (S.2.2.2.2.1 : Int) + 1) dX6_type_40 rfl fX6_80 (hs _ _ rfl) rfl (by rw [up_at, if_pos rfl, tm]) ?_
        have hO : o_type S x = ((S.2.2.2.2.1 : Int) + 1, S.1, S.2.1, S.2.2.1, S.2.2.2.1, S.2.2.2.2.1 + 1, upx S.2.2.2.2.2 S.2.2.2.2.1 x) := by unfold o_type; rw [if_neg (by omega), if_neg (by omega)]
        rw [hO]
        refine x_iret dX6_type_43 rfl rfl (Nat.zero_le _) ⟨rfl, rf, _, rfl, hr, ?_, ?_, fun d hd => ⟨by rw [up_n _ _ _ (by omega), up_n _ _ _ (by omega)], rfl⟩⟩
        · refine RCo_cong hR hV.2.1 (fun d h4 h69 => by rw [up_n _ _ _ (by omega), up_n _ _ _ (by omega)]) (by rw [up_n _ _ _ (by decide), up_n _ _ _ (by decide)]) rfl rfl rfl ⟨by rw [up_n _ _ _ (by decide), up_n _ _ _ (by decide)]; exact hR.2.2.2.2.2.1.1, fun i hi => by rw [up_n _ _ _ (by decide), up_n _ _ _ (by decide)]; exact hR.2.2.2.2.2.1.2 i hi⟩ ⟨by rw [up_at, if_pos rfl, tm]; rfl, fun i hi => ?_⟩
          rw [up_n _ _ _ (by decide), up_at, tm]
          show _ = upx S.2.2.2.2.2 S.2.2.2.2.1 x i
          unfold upx
          by_cases he : i = S.2.2.2.2.1
          · rw [if_pos (by omega), if_pos he]
          · rw [if_neg (by omega), if_neg he]
            have hi2 : i < S.2.2.2.2.1 + 1 := hi
            exact tf i (by omega)
        · obtain ⟨v1, v2, v3, v4, v5, v6, v7, v8⟩ := hV
          refine ⟨v1, v2, v3, v4, v5, v6, ?_, fun i hi => ?_⟩
          · show S.2.2.2.2.1 + 1 ≤ 60; omega
          · show 0 ≤ upx S.2.2.2.2.2 S.2.2.2.2.1 x i ∧ upx S.2.2.2.2.2 S.2.2.2.2.1 x i ≤ 255
            unfold upx
            have hi2 : i < S.2.2.2.2.1 + 1 := hi
            split
            · omega
            · exact v8 i (by omega)
      · skip
        refine x_bi (q := 27) dX6_type_25 rfl rfl ?_
        exact x_iret dX6_type_27 rfl rfl (Nat.zero_le _) (cP_same hr hR hV (by rw [o_type, if_neg (by omega), if_pos (by omega)]) (by rw [o_type, if_neg (by omega), if_pos (by omega)]))
    · skip
      refine x_ic (q := 12) dX6_type_11 rfl rfl ?_
      exact x_iret dX6_type_12 rfl rfl (Nat.zero_le _) (cP_same hr hR hV (by rw [o_type, if_pos (by omega)]) (by rw [o_type, if_pos (by omega)]))
set_option maxHeartbeats 4000000 in
set_option maxRecDepth 100000 in
theorem k_clear (hs : Ext sh) (hr : Rok rf) (hR : RC S rf v) (hV : SV S)  : Cv g mX6_clear [aR 0] (sh, rf, v) (cP (o_clear S) sh rf v) := by
  obtain ⟨⟨n0, n1, n2, n3, n4⟩, nb, nn, nse, nw⟩ := hR.now
  obtain ⟨x0, x1, x2, x3, x4, x5⟩ := hR.2.1
  have hv := hV.1.1
  have hS := nS_rng hv
  have hd := nd_rng hv
  have hq := pw16 hv.2.2.2.1 hv.2.2.2.2
  have hvb : VBan (v 5 0) (v 5 1) (v 5 2) := by rw [n0, n1, n2]; exact hv.1
  obtain ⟨hvB, hp1, hp2, hq1, hq2⟩ := hv
  have hmk := mk_rng (Gd S.1.1) (nS S.1.1)
  obtain ⟨tm, tf⟩ := hR.2.2.2.2.2.2
  refine x_entry (ls := [some (aR 0), none]) rfl rfl (Nat.le_of_ble_eq_true rfl) ?_
  refine x_al_n (q := 1) dX6_clear_0 rfl rfl ?_
  refine x_getR (q := 4) (o := some (1)) dX6_clear_1 rfl fX6_10 (hs _ _ rfl) rfl (hr _ _ _ rfl) ?_
  refine x_getIe (q := 7) (z := (S.2.2.2.2.1 : Int)) dX6_clear_4 rfl fX6_80 (hs _ _ rfl) rfl (tm) ?_
  refine x_is1 (q := 8) dX6_clear_7 rfl rfl ?_
  refine x_al_n (q := 9) dX6_clear_8 rfl rfl ?_
  refine x_getR (q := 12) (o := some (1)) dX6_clear_9 rfl fX6_10 (hs _ _ rfl) rfl (hr _ _ _ rfl) ?_
  refine x_ic (q := 13) dX6_clear_12 rfl rfl ?_
  refine x_putI (q := 16) dX6_clear_13 rfl fX6_80 (hs _ _ rfl) (.inl rfl) rfl ?_
  refine x_il_n (q := 17) dX6_clear_16 rfl rfl ?_
  refine x_iret dX6_clear_17 rfl rfl (Nat.zero_le _) ⟨rfl, rf, _, rfl, hr, ?_, ?_, fun d hd => ⟨by rw [up_n _ _ _ (by omega)], rfl⟩⟩
  · refine RCo_cong hR hV.2.1 (fun d h4 h69 => by rw [up_n _ _ _ (by omega)]) (by rw [up_n _ _ _ (by decide)]) rfl rfl rfl ⟨by rw [up_n _ _ _ (by decide)]; exact hR.2.2.2.2.2.1.1, fun i hi => by rw [up_n _ _ _ (by decide)]; exact hR.2.2.2.2.2.1.2 i hi⟩ ⟨by rw [up_at, if_pos rfl]; rfl, fun i hi => absurd hi (Nat.not_lt_zero _)⟩
  · obtain ⟨v1, v2, v3, v4, v5, v6, v7, v8⟩ := hV
    exact ⟨v1, v2, v3, v4, v5, v6, Nat.zero_le _, fun i hi => absurd hi (Nat.not_lt_zero _)⟩
end CLB

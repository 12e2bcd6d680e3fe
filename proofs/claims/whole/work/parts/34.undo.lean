/-! ===== the class: what is done, undone, kept ===== -/
theorem SameH_HR {v u : Nat → Nat → Int} {d e : Nat} {H : Hd} (h : SameH v d u e) (hH : HR v d H) (hn : H.2.1 ≤ 24) : HR u e H := by
  obtain ⟨s1, s2, s3, s4⟩ := h
  obtain ⟨a1, a2, a3, a4⟩ := hH
  refine ⟨by rw [s1]; exact a1, by rw [s2]; exact a2, by rw [s3]; exact a3, fun i hi => ?_⟩
  have h1 := s4 i (by omega)
  have h2 := a4 i hi
  exact ⟨h1.1.trans h2.1, h1.2.1.trans h2.2.1, h1.2.2.trans h2.2.2⟩
theorem RC_cur {S : St} {H : Hd} {rf : Nat → Nat → Option Nat} {v u : Nat → Nat → Int} (h : RC S rf v) (h6 : S.2.1.length ≤ 6) (h1 : ∀ d, d < 5 ∨ 15 ≤ d → u d = v d) (hH : HR u 4 H) (hA : ArcsOk u H.1) : RC (H, S.2) rf u := by
  obtain ⟨a1, a2, ⟨π, p1, p2, p3⟩, a4, ⟨b1, b2, b3, b4⟩, ⟨c1, c2⟩, ⟨d1, d2⟩⟩ := h
  refine ⟨hH, hA, ⟨π, p1, p2, fun i hh hi => ?_⟩, by rw [h1 0 (by decide)]; exact a4, ⟨by rw [h1 68 (by decide)]; exact b1, by rw [h1 68 (by decide)]; exact b2, fun hh hi => (b3 hh hi).cong (fun d g1 g2 => h1 d (by omega)), fun hh hi => (b4 hh hi).cong (fun d g1 g2 => h1 d (by omega))⟩, ⟨by rw [h1 0 (by decide)]; exact c1, fun i hi => by rw [h1 69 (by decide)]; exact c2 i hi⟩, ⟨by rw [h1 1 (by decide)]; exact d1, fun i hi => by rw [h1 2 (by decide)]; exact d2 i hi⟩⟩
  have hl : i < S.2.1.length := (List.getElem?_eq_some_iff.mp hi).1
  have := p1.1 i (by omega)
  exact (p3 i hh hi).cong (fun d g1 g2 => h1 d (by omega))
theorem HV_Bg {c : Cfg} (hv : Vld c) : (mk (Gd c) (nS c) = 0 ∧ Bg c = -9) ∨ (¬ mk (Gd c) (nS c) = 0 ∧ ∃ s : Nat, s < nS c ∧ Gd c s = true ∧ Bg c = (s : Int)) := by
  unfold Bg
  by_cases h : mk (Gd c) (nS c) = 0
  · left
    refine ⟨h, ?_⟩
    rcases fi_rng (f := Gd c) (nS c) 0 with h1 | ⟨j, j1, j2, j3, j4⟩
    · exact h1
    · have := mk_0.mp h j (by omega)
      rw [this] at j3
      cases j3
  · right
    refine ⟨h, ?_⟩
    rcases fi_rng (f := Gd c) (nS c) 0 with h1 | ⟨j, j1, j2, j3, j4⟩
    · exfalso
      apply h
      rw [mk_0]
      intro s hs
      cases hf : Gd c s with
      | false => rfl
      | true =>
        obtain ⟨m, -, -, -, m4⟩ := fi_ex (f := Gd c) (nS c) 0 s (by omega) (by omega) hf
        omega
    · exact ⟨j, by omega, j3, j4⟩
theorem HV_new {c : Cfg} (hv : Vld c) (f1 f2 f3 : Nat → Int) : HV (c, 0, f1, f2, f3, Bg c) := by
  refine ⟨hv, Nat.zero_le _, fun i hi => absurd hi (Nat.not_lt_zero _), ?_⟩
  rcases HV_Bg hv with h | h
  · exact .inl ⟨h.1, rfl, h.2⟩
  · exact .inr h
theorem pushP_len (ps : List Hd) (h : Hd) (h6 : ps.length ≤ 6) : (pushP ps h).length ≤ 6 := by
  unfold pushP
  split
  · simp; omega
  · simp; omega
theorem pushP_mem {ps : List Hd} {h x : Hd} (hx : x ∈ pushP ps h) : x ∈ ps ∨ x = h := by
  unfold pushP at hx
  split at hx
  · rcases List.mem_append.mp hx with q | q
    · exact .inl q
    · exact .inr (List.mem_singleton.mp q)
  · rcases List.mem_append.mp hx with q | q
    · exact .inl (List.mem_of_mem_drop q)
    · exact .inr (List.mem_singleton.mp q)
section CLC
variable {g : GL} {sh : List (Nat × Nat)} {rf : Nat → Nat → Option Nat} {v : Nat → Nat → Int} {S : St}
theorem heldP (hs : Ext sh) (hr : Rok rf) {j : Nat} (hj : j < 6) : HeldAt sh rf (19 + 6 * j) := by
  rcases (show j = 0 ∨ j = 1 ∨ j = 2 ∨ j = 3 ∨ j = 4 ∨ j = 5 by omega) with rfl | rfl | rfl | rfl | rfl | rfl <;> exact ⟨hs _ _ rfl, hs _ _ rfl, hr _ _ _ rfl, hr _ _ _ rfl, hs _ _ rfl, hs _ _ rfl, hs _ _ rfl, hs _ _ rfl, hr _ _ _ rfl, hr _ _ _ rfl, hr _ _ _ rfl⟩
theorem heldI (hs : Ext sh) (hr : Rok rf) {j : Nat} (hj : j < 2) : HeldAt sh rf (56 + 6 * j) := by
  rcases (show j = 0 ∨ j = 1 by omega) with rfl | rfl <;> exact ⟨hs _ _ rfl, hs _ _ rfl, hr _ _ _ rfl, hr _ _ _ rfl, hs _ _ rfl, hs _ _ rfl, hs _ _ rfl, hs _ _ rfl, hr _ _ _ rfl, hr _ _ _ rfl, hr _ _ _ rfl⟩

set_option maxHeartbeats 4000000 in
set_option maxRecDepth 100000 in
theorem rem_tail (hs : Ext sh) (hr : Rok rf) {ps : List Hd} {v2 : Nat → Nat → Int} (hR : RC (S.1, ps, S.2.2) rf v2) (hV : HV S.1) (h6 : ps.length < 6) {o1 o2 : Option AV} : Wv g mX6_remember 0 0 56 [some (aR 0), o1, o2] [] (sh, rf, v2) (fun r h1 => r = none ∧ ∃ rf2 u, h1 = (sh, rf2, u) ∧ Rok rf2 ∧ RC (S.1, ps ++ [S.1], S.2.2) rf2 u ∧ (∀ d, 70 ≤ d → u d = v2 d ∧ rf2 d = rf d) ∧ ∀ d, 1 ≤ d → d < 19 → u d = v2 d) := by
  obtain ⟨a1, a2, ⟨π, p1, p2, p3⟩, a4, ⟨b1, b2, b3, b4⟩, ⟨c1, c2⟩, ⟨d1, d2⟩⟩ := hR
  dsimp only at a1 a2 p3 a4 b1 b2 b3 b4 c1 c2 d1 d2
  have hpn := p1.1 ps.length h6
  have hH := heldP (sh := sh) (rf := rf) hs hr hpn
  have hH1 := hH.1
  refine x_al_n (q := 57) dX6_remember_56 rfl rfl ?_
  refine x_getIe (q := 60) (z := (ps.length : Int)) dX6_remember_57 rfl fX6_129 (by first | exact hs _ _ rfl | exact hH1) rfl (a4) ?_
  refine x_if_ge (t := 67) (q := 63) dX6_remember_60 rfl rfl (fun c_60 => ?_) (fun c_60 => ?_)
  · skip
    refine x_al_n (q := 68) dX6_remember_67 rfl rfl ?_
    refine x_getR (q := 71) (o := some (18)) dX6_remember_68 rfl fX6_44 (by first | exact hs _ _ rfl | exact hH1) rfl (hr _ _ _ rfl) ?_
    refine x_al_n (q := 72) dX6_remember_71 rfl rfl ?_
    refine x_getIe (q := 75) (z := (ps.length : Int)) dX6_remember_72 rfl fX6_129 (by first | exact hs _ _ rfl | exact hH1) rfl (a4) ?_
    refine x_aald (q := 76) (o := some (19 + 6 * π ps.length)) dX6_remember_75 rfl (hs _ _ rfl) (by omega) (by omega) (by rw [Int.toNat_natCast]; exact p2 _ h6) ?_
    refine x_as1 (q := 77) dX6_remember_76 rfl rfl ?_
    refine x_al_n (q := 78) dX6_remember_77 rfl rfl ?_
    refine x_nu (q := 81) dX6_remember_78 rfl ?_
    refine x_al_n (q := 82) dX6_remember_81 rfl rfl ?_
    refine x_al_n (q := 83) dX6_remember_82 rfl rfl ?_
    refine x_getR (q := 86) (o := some (4)) dX6_remember_83 rfl fX6_26 (by first | exact hs _ _ rfl | exact hH1) rfl (hr _ _ _ rfl) ?_
    refine x_V (q := 89) (ci := 2) dX6_remember_86 rfl kX6_remember_202 (c_heldCopy (e := 19 + 6 * π ps.length) (d := 4) hH (held4 hs hr) (by omega)) rfl rfl (by first | exact hs _ _ rfl | exact hH1) (by decide) rfl (Nat.le_of_ble_eq_true rfl) ⟨rfl, rfl⟩ ⟨Nat.zero_le _, Nat.zero_le _⟩ (fun r1 h1 hp => ?_)
    obtain ⟨rfl, v3, rfl, k1, k2⟩ := hp
    refine x_al_n (q := 90) dX6_remember_89 rfl rfl ?_
    refine x_dup (q := 91) dX6_remember_90 rfl rfl ?_
    refine x_getIe (q := 94) (z := (ps.length : Int)) dX6_remember_91 rfl fX6_129 (by first | exact hs _ _ rfl | exact hH1) rfl (by rw [k2 0 (by omega)]; exact a4) ?_
    refine x_ic (q := 95) dX6_remember_94 rfl rfl ?_
    refine x_add (q := 96) dX6_remember_95 rfl ⟨by omega, by omega⟩ ?_
    refine x_putI (q := 99) dX6_remember_96 rfl fX6_129 (by first | exact hs _ _ rfl | exact hH1) (.inl rfl) rfl ?_
    refine x_vret dX6_remember_99 rfl rfl (Nat.zero_le _) ⟨rfl, rf, _, rfl, hr, ?_, fun d hd => ⟨by rw [up_n _ _ _ (by omega), k2 d (by omega)], rfl⟩, fun d h1 h2 => by rw [up_n _ _ _ (by omega), k2 d (by omega)]⟩
    have hk : ∀ d, d ≠ 0 → (d < 20 + 6 * π ps.length ∨ 25 + 6 * π ps.length ≤ d) → up v3 0 6 ((ps.length : Int) + 1) d = v2 d := fun d h0 h1 => by rw [up_n _ _ _ h0, k2 d (by omega)]
    refine ⟨a1.cong (fun d g1 g2 => hk d (by omega) (by omega)), a2.cong (hk 10 (by omega) (by omega)) (hk 11 (by omega) (by omega)) (hk 12 (by omega) (by omega)), ⟨π, p1, p2, fun i hh hi => ?_⟩, by rw [up_at, if_pos rfl]; show _ = (((ps ++ [S.1]).length : Nat) : Int); simp, ⟨by rw [hk 68 (by omega) (by omega)]; exact b1, by rw [hk 68 (by omega) (by omega)]; exact b2, fun hh hi => (b3 hh hi).cong (fun d g1 g2 => hk d (by omega) (by omega)), fun hh hi => (b4 hh hi).cong (fun d g1 g2 => hk d (by omega) (by omega))⟩, ⟨by rw [up_at, if_neg (by decide), k2 0 (by omega)]; exact c1, fun i hi => by rw [hk 69 (by omega) (by omega)]; exact c2 i hi⟩, ⟨by rw [hk 1 (by omega) (by omega)]; exact d1, fun i hi => by rw [hk 2 (by omega) (by omega)]; exact d2 i hi⟩⟩
    have hi0 : (ps ++ [S.1])[i]? = some hh := hi
    by_cases hil : i < ps.length
    · rw [List.getElem?_append_left hil] at hi0
      have hne : π i ≠ π ps.length := fun e => by have := p1.2 i ps.length (by omega) h6 e; omega
      exact (p3 i hh hi0).cong (fun d g1 g2 => hk d (by omega) (by omega))
    · have hlt := (List.getElem?_eq_some_iff.mp hi0).1
      rw [List.length_append, List.length_singleton] at hlt
      obtain rfl : i = ps.length := by omega
      rw [List.getElem?_append_right (Nat.le_refl _), Nat.sub_self] at hi0
      have hhe : S.1 = hh := by simpa using hi0
      subst hhe
      exact (SameH_HR k1 a1 hV.2.1).cong (fun d g1 g2 => by rw [up_n _ _ _ (by omega)])
  · skip
    exact absurd (by omega) c_60
set_option maxHeartbeats 4000000 in
set_option maxRecDepth 100000 in
theorem k_remember (hs : Ext sh) (hr : Rok rf) (hR : RC S rf v) (hV : SV S) : Cv g mX6_remember [aR 0] (sh, rf, v) (fun r h1 => r = none ∧ ∃ rf2 u, h1 = (sh, rf2, u) ∧ Rok rf2 ∧ RC (S.1, pushP S.2.1 S.1, S.2.2) rf2 u ∧ (∀ d, 70 ≤ d → u d = v d ∧ rf2 d = rf d) ∧ ∀ d, 1 ≤ d → d < 19 → u d = v d) := by
  obtain ⟨a1, a2, ⟨π, p1, p2, p3⟩, a4, ⟨b1, b2, b3, b4⟩, ⟨c1, c2⟩, ⟨d1, d2⟩⟩ := id hR
  have h6 := hV.2.1
  have hH : ∀ j, j < 6 → sh[19 + 6 * π j]? = some (5, 2) := fun j hj => (heldP (sh := sh) (rf := rf) hs hr (p1.1 j hj)).1
  refine x_entry (ls := [some (aR 0), none, none]) rfl rfl (Nat.le_of_ble_eq_true rfl) ?_
  refine x_al_n (q := 1) dX6_remember_0 rfl rfl ?_
  refine x_getIe (q := 4) (z := (S.2.1.length : Int)) dX6_remember_1 rfl fX6_129 (hs _ _ rfl) rfl (a4) ?_
  refine x_bi (q := 6) dX6_remember_4 rfl rfl ?_
  refine x_ic_lt (t := 56) (q := 9) dX6_remember_6 rfl rfl (fun c_6 => ?_) (fun c_6 => ?_)
  · skip
    have hpp : pushP S.2.1 S.1 = S.2.1 ++ [S.1] := by unfold pushP; rw [if_pos (by omega)]
    rw [hpp]
    exact rem_tail (S := S) (ps := S.2.1) hs hr hR hV.1 (by omega)
  · skip
    have hl6 : S.2.1.length = 6 := by omega
    refine x_al_n (q := 10) dX6_remember_9 rfl rfl ?_
    refine x_getR (q := 13) (o := some (18)) dX6_remember_10 rfl fX6_44 (hs _ _ rfl) rfl (hr _ _ _ rfl) ?_
    refine x_ic (q := 14) dX6_remember_13 rfl rfl ?_
    refine x_aald (q := 15) (o := some (19 + 6 * π 0)) dX6_remember_14 rfl (hs _ _ rfl) (by decide) (by decide) (p2 0 (by decide)) ?_
    refine x_as1 (q := 16) dX6_remember_15 rfl rfl ?_
    refine x_ic (q := 17) dX6_remember_16 rfl rfl ?_
    refine x_is2 (q := 18) dX6_remember_17 rfl rfl ?_
    refine x_up (S := fun i => ∀ rf2 : Nat → Nat → Option Nat, ((∀ j, j < 6 → rf2 18 j = some (19 + 6 * π (if j < i then j + 1 else j))) ∧ ∀ d, d ≠ 18 → rf2 d = rf d) → Wv g mX6_remember 0 0 18 [some (aR 0), some (aR (19 + 6 * π 0)), some (aI ((i : Int) + 1))] [] (sh, rf2, v) (fun r h1 => r = none ∧ ∃ rf2 u, h1 = (sh, rf2, u) ∧ Rok rf2 ∧ RC (S.1, pushP S.2.1 S.1, S.2.2) rf2 u ∧ (∀ d, 70 ≤ d → u d = v d ∧ rf2 d = rf d) ∧ ∀ d, 1 ≤ d → d < 19 → u d = v d)) 5 ?_ ?_ 0 (Nat.zero_le _) rf ⟨fun j hj => by rw [if_neg (by omega)]; exact p2 j hj, fun _ _ => rfl⟩
    · intro rf2 ⟨q1, q2⟩
      have hr2 : Rok rf2 := fun c k d hd => by
        by_cases hc : c = 18
        · subst hc; simp [RFl] at hd
        · rw [q2 c hc]; exact hr c k d hd
      refine x_il_n (q := 19) dX6_remember_18 rfl rfl ?_
      refine x_bi (q := 21) dX6_remember_19 rfl rfl ?_
      refine x_ic_ge (t := 44) (q := 24) dX6_remember_21 rfl rfl (fun c_21 => ?_) (fun c_21 => ?_)
      · skip
        refine x_al_n (q := 45) dX6_remember_44 rfl rfl ?_
        refine x_getR (q := 48) (o := some (18)) dX6_remember_45 rfl fX6_44 (hs _ _ rfl) rfl (hr2 _ _ _ rfl) ?_
        refine x_ic (q := 49) dX6_remember_48 rfl rfl ?_
        refine x_al_n (q := 50) dX6_remember_49 rfl rfl ?_
        refine x_aast (q := 51) dX6_remember_50 rfl (hs _ _ rfl) (hH 0 (by decide)) (by decide) (by decide) ?_
        refine x_al_n (q := 52) dX6_remember_51 rfl rfl ?_
        refine x_ic (q := 53) dX6_remember_52 rfl rfl ?_
        refine x_putI (q := 56) dX6_remember_53 rfl fX6_129 (hs _ _ rfl) (.inl rfl) rfl ?_
        have hr3 : Rok (upO rf2 18 (5 : Int).toNat (some (19 + 6 * π 0))) := fun c k d hd => by
          by_cases hc : c = 18
          · subst hc; simp [RFl] at hd
          · rw [upO_n _ _ _ hc]; exact hr2 c k d hd
        have hpp : pushP S.2.1 S.1 = S.2.1.drop 1 ++ [S.1] := by unfold pushP; rw [if_neg (by omega)]
        rw [hpp]
        have hRC : RC (S.1, S.2.1.drop 1, S.2.2) (upO rf2 18 (5 : Int).toNat (some (19 + 6 * π 0))) (up v 0 6 5) := by
          have hk : ∀ d, d ≠ 0 → up v 0 6 5 d = v d := fun d h0 => up_n _ _ _ h0
          refine ⟨a1.cong (fun d g1 g2 => hk d (by omega)), a2.cong (hk 10 (by omega)) (hk 11 (by omega)) (hk 12 (by omega)), ⟨fun i => π (if i < 5 then i + 1 else 0), ⟨fun i hi => p1.1 _ (by split <;> omega), fun i j hi hj he => ?_⟩, fun i hi => ?_, fun i hh hi => ?_⟩, by rw [up_at, if_pos rfl]; show _ = (((S.2.1.drop 1).length : Nat) : Int); rw [List.length_drop]; omega, ⟨by rw [hk 68 (by omega)]; exact b1, by rw [hk 68 (by omega)]; exact b2, fun hh hi => (b3 hh hi).cong (fun d g1 g2 => hk d (by omega)), fun hh hi => (b4 hh hi).cong (fun d g1 g2 => hk d (by omega))⟩, ⟨by rw [up_at, if_neg (by decide)]; exact c1, fun i hi => by rw [hk 69 (by omega)]; exact c2 i hi⟩, ⟨by rw [hk 1 (by omega)]; exact d1, fun i hi => by rw [hk 2 (by omega)]; exact d2 i hi⟩⟩
          · have := p1.2 _ _ (show (if i < 5 then i + 1 else 0) < 6 by split <;> omega) (show (if j < 5 then j + 1 else 0) < 6 by split <;> omega) he
            split at this <;> split at this <;> omega
          · rw [upO_c]
            show (if i = 5 then _ else _) = some (19 + 6 * π (if i < 5 then i + 1 else 0))
            by_cases h5 : i = 5
            · rw [if_pos h5, if_neg (by omega)]
            · rw [if_neg h5, q1 i hi, if_pos (show i < 5 by omega), if_pos (show i < 5 by omega)]
          · have hi0 : (S.2.1.drop 1)[i]? = some hh := hi
            rw [List.getElem?_drop] at hi0
            have hlt := (List.getElem?_eq_some_iff.mp hi0).1
            have hp := p3 (1 + i) hh hi0
            have hpi := p1.1 (1 + i) (by omega)
            show HR (up v 0 6 5) (19 + 6 * π (if i < 5 then i + 1 else 0)) hh
            rw [if_pos (show i < 5 by omega), Nat.add_comm i 1]
            exact hp.cong (fun d g1 g2 => hk d (by omega))
        refine x_post (rem_tail hs hr3 hRC hV.1 (by rw [List.length_drop]; omega)) ?_
        intro r h1 ⟨e1, rf4, u, e2, e3, e4, e5, e6⟩
        refine ⟨e1, rf4, u, e2, e3, e4, fun d hd => ⟨by rw [(e5 d hd).1, up_n _ _ _ (by omega)], by rw [(e5 d hd).2, upO_n _ _ _ (by omega), q2 d (by omega)]⟩, fun d h1 h2 => by rw [e6 d h1 h2, up_n _ _ _ (by omega)]⟩
      · skip
        exact absurd (by decide) c_21
    · intro i hi ih rf2 ⟨q1, q2⟩
      have hr2 : Rok rf2 := fun c k d hd => by
        by_cases hc : c = 18
        · subst hc; simp [RFl] at hd
        · rw [q2 c hc]; exact hr c k d hd
      refine x_il_n (q := 19) dX6_remember_18 rfl rfl ?_
      refine x_bi (q := 21) dX6_remember_19 rfl rfl ?_
      refine x_ic_ge (t := 44) (q := 24) dX6_remember_21 rfl rfl (fun c_21 => ?_) (fun c_21 => ?_)
      · skip
        exact absurd c_21 (by omega)
      · skip
        refine x_al_n (q := 25) dX6_remember_24 rfl rfl ?_
        refine x_getR (q := 28) (o := some (18)) dX6_remember_25 rfl fX6_44 (hs _ _ rfl) rfl (hr2 _ _ _ rfl) ?_
        refine x_il_n (q := 29) dX6_remember_28 rfl rfl ?_
        refine x_ic (q := 30) dX6_remember_29 rfl rfl ?_
        refine x_sub (q := 31) dX6_remember_30 rfl ⟨by omega, by omega⟩ ?_
        refine x_al_n (q := 32) dX6_remember_31 rfl rfl ?_
        refine x_getR (q := 35) (o := some (18)) dX6_remember_32 rfl fX6_44 (hs _ _ rfl) rfl (hr2 _ _ _ rfl) ?_
        refine x_il_n (q := 36) dX6_remember_35 rfl rfl ?_
        refine x_aald (q := 37) (o := some (19 + 6 * π (i + 1))) dX6_remember_36 rfl (hs _ _ rfl) (by omega) (by omega) (by rw [show ((i : Int) + 1).toNat = i + 1 by omega, q1 (i + 1) (by omega), if_neg (by omega)]) ?_
        refine x_aast (q := 38) dX6_remember_37 rfl (hs _ _ rfl) (hH (i + 1) (by omega)) (by omega) (by omega) ?_
        refine x_ii2 (q := 41) dX6_remember_38 rfl rfl ⟨by omega, by omega⟩ ?_
        refine x_goto (t := 18) dX6_remember_41 rfl ?_
        refine ih _ ⟨fun j hj => ?_, fun d hd => ?_⟩
        · rw [upO_c, show ((i : Int) + 1 - 1).toNat = i by omega]
          show (if j = i then _ else _) = _
          by_cases hji : j = i
          · rw [if_pos hji, if_pos (by omega), hji]
          · rw [if_neg hji, q1 j hj]
            by_cases h2 : j < i
            · rw [if_pos h2, if_pos (by omega)]
            · rw [if_neg h2, if_neg (by omega)]
        · rw [upO_n _ _ _ hd]; exact q2 d hd
set_option maxHeartbeats 4000000 in
set_option maxRecDepth 100000 in
theorem k_become (hs : Ext sh) (hr : Rok rf) {e : Nat} {H : Hd} (he : HeldAt sh rf e) (h15 : 15 ≤ e) (hH : HR v e H) (hHV : HV H) : Cv g mX6_become [aR 0, aR e] (sh, rf, v) (putL (fun u => HR u 4 H ∧ ArcsOk u H.1 ∧ ∀ d, d < 5 ∨ 15 ≤ d → u d = v d) sh rf) := by
  refine x_entry (ls := [some (aR 0), some (aR e)]) rfl rfl (Nat.le_of_ble_eq_true rfl) ?_
  refine x_al_n (q := 1) dX6_become_0 rfl rfl ?_
  refine x_nu (q := 4) dX6_become_1 rfl ?_
  refine x_al_n (q := 5) dX6_become_4 rfl rfl ?_
  refine x_getR (q := 8) (o := some (4)) dX6_become_5 rfl fX6_26 (by first | exact hs _ _ rfl | exact he.1) rfl (hr _ _ _ rfl) ?_
  refine x_al_n (q := 9) dX6_become_8 rfl rfl ?_
  refine x_V (q := 12) (ci := 2) dX6_become_9 rfl kX6_become_202 (c_heldCopy (e := 4) (d := e) (held4 hs hr) he (by omega)) rfl rfl (by first | exact hs _ _ rfl | exact he.1) (by decide) rfl (Nat.le_of_ble_eq_true rfl) ⟨rfl, rfl⟩ ⟨Nat.zero_le _, Nat.zero_le _⟩ (fun r1 h1 hp => ?_)
  obtain ⟨rfl, v3, rfl, k1, k2⟩ := hp
  have hH3 := SameH_HR k1 hH hHV.2.1
  have hb3 : banOf v3 5 = H.1 := hH3.1
  refine x_al_n (q := 13) dX6_become_12 rfl rfl ?_
  refine x_getR (q := 16) (o := some (10)) dX6_become_13 rfl fX6_33 (by first | exact hs _ _ rfl | exact he.1) rfl (hr _ _ _ rfl) ?_
  refine x_al_n (q := 17) dX6_become_16 rfl rfl ?_
  refine x_getR (q := 20) (o := some (4)) dX6_become_17 rfl fX6_26 (by first | exact hs _ _ rfl | exact he.1) rfl (hr _ _ _ rfl) ?_
  refine x_getR (q := 23) (o := some (5)) dX6_become_20 rfl fX6_59 (by first | exact hs _ _ rfl | exact he.1) rfl (hr _ _ _ rfl) ?_
  refine x_V (q := 26) (ci := 0) dX6_become_23 rfl kX6_become_62 (c_build hs hr (v := v3) (c := 5) (hs _ _ rfl) (by decide) (by rw [hb3]; exact hHV.1)) rfl rfl (by first | exact hs _ _ rfl | exact he.1) (by decide) rfl (Nat.le_of_ble_eq_true rfl) ⟨rfl, rfl⟩ ⟨Nat.zero_le _, Nat.zero_le _⟩ (fun r1 h1 hp => ?_)
  obtain ⟨rfl, u, rfl, g1, g2⟩ := hp
  rw [hb3] at g1
  exact x_vret dX6_become_26 rfl rfl (Nat.zero_le _) (by exact ⟨rfl, u, rfl, hH3.cong (fun d q1 q2 => g2 d (by omega)), g1, fun d hd => by rw [g2 d (by omega), k2 d (by omega)]⟩)
set_option maxHeartbeats 4000000 in
set_option maxRecDepth 100000 in
theorem k_keep (hs : Ext sh) (hr : Rok rf) (hR : RC S rf v) (hV : SV S) {i : Int} : Cv g mX6_keep [aR 0, aI i] (sh, rf, v) (cP (o_keep S i) sh rf v) := by
  obtain ⟨⟨n0, n1, n2, n3, n4⟩, nb, nn, nse, nw⟩ := hR.now
  obtain ⟨x0, x1, x2, x3, x4, x5⟩ := hR.2.1
  have hv := hV.1.1
  have hS := nS_rng hv
  have hd := nd_rng hv
  have hq := pw16 hv.2.2.2.1 hv.2.2.2.2
  have hvb : VBan (v 5 0) (v 5 1) (v 5 2) := by rw [n0, n1, n2]; exact hv.1
  obtain ⟨hvB, hp1, hp2, hq1, hq2⟩ := hv
  have hmk := mk_rng (Gd S.1.1) (nS S.1.1)
  refine x_entry (ls := [some (aR 0), some (aI i), none]) rfl rfl (Nat.le_of_ble_eq_true rfl) ?_
  refine x_il_n (q := 1) dX6_keep_0 rfl rfl ?_
  refine x_SI (q := 4) dX6_keep_1 rfl kX6_keep_199 (k_isNoImage) rfl rfl (Nat.le_of_ble_eq_true rfl) ⟨rfl, rfl⟩ ⟨Nat.zero_le _, Nat.zero_le _⟩ ?_
  refine x_if_eq (t := 9) (q := 7) dX6_keep_4 rfl rfl (fun c_4 => ?_) (fun c_4 => ?_)
  · skip
    have d_4 := of_decide_eq_false (b2i_0.mp c_4)
    refine x_al_n (q := 10) dX6_keep_9 rfl rfl ?_
    refine x_getR (q := 13) (o := some (55)) dX6_keep_10 rfl fX6_48 (by first | exact hs _ _ rfl | exact hIh.1) rfl (hr _ _ _ rfl) ?_
    refine x_il_n (q := 14) dX6_keep_13 rfl rfl ?_
    obtain ⟨j, rfl⟩ := Int.eq_ofNat_of_zero_le (show 0 ≤ i by omega)
    have hj : j < 2 := by omega
    have hIh := heldI (sh := sh) (rf := rf) hs hr hj
    refine x_aald (q := 15) (o := some (56 + 6 * j)) dX6_keep_14 rfl (hs _ _ rfl) (by omega) (by omega) (by rw [Int.toNat_natCast]; rcases (show j = 0 ∨ j = 1 by omega) with rfl | rfl <;> exact hr _ _ _ rfl) ?_
    refine x_as2 (q := 16) dX6_keep_15 rfl rfl ?_
    refine x_al_n (q := 17) dX6_keep_16 rfl rfl ?_
    refine x_nn (t := 22) dX6_keep_17 rfl ?_
    refine x_al_n (q := 23) dX6_keep_22 rfl rfl ?_
    refine x_al_n (q := 24) dX6_keep_23 rfl rfl ?_
    refine x_getR (q := 27) (o := some (4)) dX6_keep_24 rfl fX6_26 (by first | exact hs _ _ rfl | exact hIh.1) rfl (hr _ _ _ rfl) ?_
    refine x_V (q := 30) (ci := 2) dX6_keep_27 rfl kX6_keep_202 (c_heldCopy (e := 56 + 6 * j) (d := 4) hIh (held4 hs hr) (by omega)) rfl rfl (by first | exact hs _ _ rfl | exact hIh.1) (by decide) rfl (Nat.le_of_ble_eq_true rfl) ⟨rfl, rfl⟩ ⟨Nat.zero_le _, Nat.zero_le _⟩ (fun r1 h1 hp => ?_)
    obtain ⟨rfl, v3, rfl, k1, k2⟩ := hp
    refine x_al_n (q := 31) dX6_keep_30 rfl rfl ?_
    refine x_getR (q := 34) (o := some (68)) dX6_keep_31 rfl fX6_51 (by first | exact hs _ _ rfl | exact hIh.1) rfl (hr _ _ _ rfl) ?_
    refine x_il_n (q := 35) dX6_keep_34 rfl rfl ?_
    refine x_ic (q := 36) dX6_keep_35 rfl rfl ?_
    refine x_zast (q := 37) dX6_keep_36 rfl (hs _ _ rfl) (by omega) (by omega) (.inr rfl) ?_
    rw [Int.toNat_natCast]
    refine x_al_n (q := 38) dX6_keep_37 rfl rfl ?_
    refine x_getR (q := 41) (o := some (4)) dX6_keep_38 rfl fX6_26 (by first | exact hs _ _ rfl | exact hIh.1) rfl (hr _ _ _ rfl) ?_
    refine x_getR (q := 44) (o := some (6)) dX6_keep_41 rfl fX6_66 (by first | exact hs _ _ rfl | exact hIh.1) rfl (hr _ _ _ rfl) ?_
    refine x_getIe (q := 47) (z := (S.1.2.1 : Int)) dX6_keep_44 rfl fX6_109 (by first | exact hs _ _ rfl | exact hIh.1) rfl (by rw [up_n _ _ _ (by decide), k2 6 (by omega)]; exact nn) ?_
    have hO : o_keep S (j : Int) = ((S.1.2.1 : Int), S.1, S.2.1, (if (j : Int) = 0 then (some S.1, S.2.2.1.2) else (S.2.2.1.1, some S.1)), S.2.2.2) := by unfold o_keep; rw [if_neg (by omega)]
    rw [hO]
    obtain ⟨a1, a2, ⟨π, p1, p2, p3⟩, a4, ⟨b1, b2, b3, b4⟩, ⟨c1, c2⟩, ⟨d1, d2⟩⟩ := hR
    have hk : ∀ d, d ≠ 68 → (d < 57 + 6 * j ∨ 62 + 6 * j ≤ d) → up v3 68 j 1 d = v d := fun d h0 h1 => by rw [up_n _ _ _ h0, k2 d (by omega)]
    have hn : HR (up v3 68 j 1) (56 + 6 * j) S.1 := (SameH_HR k1 a1 hV.1.2.1).cong (fun d g1 g2 => by rw [up_n _ _ _ (by omega)])
    refine x_iret dX6_keep_47 rfl rfl (Nat.zero_le _) ⟨rfl, rf, _, rfl, hr, ⟨a1.cong (fun d g1 g2 => hk d (by omega) (by omega)), a2.cong (hk 10 (by omega) (by omega)) (hk 11 (by omega) (by omega)) (hk 12 (by omega) (by omega)), ⟨π, p1, p2, fun i hh hi => ?_⟩, by rw [hk 0 (by omega) (by omega)]; exact a4, ⟨?_, ?_, fun hh hi => ?_, fun hh hi => ?_⟩, ⟨by rw [hk 0 (by omega) (by omega)]; exact c1, fun i hi => by rw [hk 69 (by omega) (by omega)]; exact c2 i hi⟩, ⟨by rw [hk 1 (by omega) (by omega)]; exact d1, fun i hi => by rw [hk 2 (by omega) (by omega)]; exact d2 i hi⟩⟩, ?_, fun d hd => ⟨hk d (by omega) (by omega), rfl⟩⟩
    · have hl : i < S.2.1.length := (List.getElem?_eq_some_iff.mp hi).1
      have := p1.1 i (by have := hV.2.1; omega)
      exact (p3 i hh hi).cong (fun d g1 g2 => hk d (by omega) (by omega))
    · rcases (show j = 0 ∨ j = 1 by omega) with rfl | rfl
      · rw [up_at, if_pos rfl]; rfl
      · rw [up_at, if_neg (by decide), k2 68 (by omega)]; exact b1
    · rcases (show j = 0 ∨ j = 1 by omega) with rfl | rfl
      · rw [up_at, if_neg (by decide), k2 68 (by omega)]; exact b2
      · rw [up_at, if_pos rfl]; rfl
    · rcases (show j = 0 ∨ j = 1 by omega) with rfl | rfl
      · have e : some S.1 = some hh := hi
        cases e
        exact hn
      · exact (b3 hh hi).cong (fun d g1 g2 => hk d (by omega) (by omega))
    · rcases (show j = 0 ∨ j = 1 by omega) with rfl | rfl
      · exact (b4 hh hi).cong (fun d g1 g2 => hk d (by omega) (by omega))
      · have e : some S.1 = some hh := hi
        cases e
        exact hn
    · obtain ⟨v1, v2, v3, v4, v5, v6, v7, v8⟩ := hV
      rcases (show j = 0 ∨ j = 1 by omega) with rfl | rfl
      · exact ⟨v1, v2, v3, fun hh hi => by have e : some S.1 = some hh := hi; cases e; exact v1, v5, v6, v7, v8⟩
      · exact ⟨v1, v2, v3, v4, fun hh hi => by have e : some S.1 = some hh := hi; cases e; exact v1, v6, v7, v8⟩
  · skip
    have d_4 := of_decide_eq_true (b2i_n0.mp c_4)
    refine x_ic (q := 8) dX6_keep_7 rfl rfl ?_
    exact x_iret dX6_keep_8 rfl rfl (Nat.zero_le _) (cP_same hr hR hV (by rw [o_keep, if_pos (by omega)]) (by rw [o_keep, if_pos (by omega)]))
set_option maxHeartbeats 4000000 in
set_option maxRecDepth 100000 in
theorem k_undo (hs : Ext sh) (hr : Rok rf) (hR : RC S rf v) (hV : SV S)  : Cv g mX6_undo [aR 0] (sh, rf, v) (cP (o_undo S) sh rf v) := by
  obtain ⟨⟨n0, n1, n2, n3, n4⟩, nb, nn, nse, nw⟩ := hR.now
  obtain ⟨x0, x1, x2, x3, x4, x5⟩ := hR.2.1
  have hv := hV.1.1
  have hS := nS_rng hv
  have hd := nd_rng hv
  have hq := pw16 hv.2.2.2.1 hv.2.2.2.2
  have hvb : VBan (v 5 0) (v 5 1) (v 5 2) := by rw [n0, n1, n2]; exact hv.1
  obtain ⟨hvB, hp1, hp2, hq1, hq2⟩ := hv
  have hmk := mk_rng (Gd S.1.1) (nS S.1.1)
  obtain ⟨a1, a2, ⟨π, p1, p2, p3⟩, a4, b, c, d⟩ := id hR
  have h6 := hV.2.1
  refine x_entry (ls := [some (aR 0)]) rfl rfl (Nat.le_of_ble_eq_true rfl) ?_
  refine x_al_n (q := 1) dX6_undo_0 rfl rfl ?_
  refine x_getIe (q := 4) (z := (S.2.1.length : Int)) dX6_undo_1 rfl fX6_129 (hs _ _ rfl) rfl (a4) ?_
  refine x_ic (q := 5) dX6_undo_4 rfl rfl ?_
  refine x_ic_lt (t := 17) (q := 8) dX6_undo_5 rfl rfl (fun c_5 => ?_) (fun c_5 => ?_)
  · skip
    have hp0 : S.2.1 = [] := List.eq_nil_of_length_eq_zero (by omega)
    have hO : o_undo S = (-2, S) := by unfold o_undo; rw [hp0]; rfl
    refine x_bi (q := 19) dX6_undo_17 rfl rfl ?_
    exact x_iret dX6_undo_19 rfl rfl (Nat.zero_le _) (cP_same hr hR hV (by rw [hO]) (by rw [hO]))
  · skip
    have hne : S.2.1 ≠ [] := fun e => by rw [e] at c_5; exact c_5 (by decide)
    obtain ⟨H, hH⟩ : ∃ H, S.2.1.getLast? = some H := ⟨_, List.getLast?_eq_some_getLast hne⟩
    have hO : o_undo S = ((S.2.1.length : Int) - 1, H, S.2.1.dropLast, S.2.2) := by unfold o_undo; rw [hH]
    have hHi : S.2.1[S.2.1.length - 1]? = some H := by rw [← List.getLast?_eq_getElem?]; exact hH
    have hHV : HV H := hV.2.2.1 H (List.mem_of_getElem? hHi)
    have hHR := p3 _ H hHi
    have hpl := p1.1 (S.2.1.length - 1) (by omega)
    have hHh := heldP (sh := sh) (rf := rf) hs hr hpl
    refine x_al_n (q := 9) dX6_undo_8 rfl rfl ?_
    refine x_getIe (q := 12) (z := (S.2.1.length : Int)) dX6_undo_9 rfl fX6_129 (hs _ _ rfl) rfl (a4) ?_
    refine x_bi (q := 14) dX6_undo_12 rfl rfl ?_
    refine x_ic_le (t := 20) (q := 17) dX6_undo_14 rfl rfl (fun c_14 => ?_) (fun c_14 => ?_)
    · skip
      refine x_al_n (q := 21) dX6_undo_20 rfl rfl ?_
      refine x_dup (q := 22) dX6_undo_21 rfl rfl ?_
      refine x_getIe (q := 25) (z := (S.2.1.length : Int)) dX6_undo_22 rfl fX6_129 (hs _ _ rfl) rfl (a4) ?_
      refine x_ic (q := 26) dX6_undo_25 rfl rfl ?_
      refine x_sub (q := 27) dX6_undo_26 rfl ⟨by omega, by omega⟩ ?_
      refine x_putI (q := 30) dX6_undo_27 rfl fX6_129 (hs _ _ rfl) (.inl rfl) rfl ?_
      refine x_al_n (q := 31) dX6_undo_30 rfl rfl ?_
      refine x_al_n (q := 32) dX6_undo_31 rfl rfl ?_
      refine x_getR (q := 35) (o := some (18)) dX6_undo_32 rfl fX6_44 (hs _ _ rfl) rfl (hr _ _ _ rfl) ?_
      refine x_al_n (q := 36) dX6_undo_35 rfl rfl ?_
      refine x_getIe (q := 39) (z := (S.2.1.length : Int) - 1) dX6_undo_36 rfl fX6_129 (hs _ _ rfl) rfl (by rw [up_at, if_pos rfl]) ?_
      refine x_aald (q := 40) (o := some (19 + 6 * π (S.2.1.length - 1))) dX6_undo_39 rfl (hs _ _ rfl) (by omega) (by omega) (by rw [show ((S.2.1.length : Int) - 1).toNat = S.2.1.length - 1 by omega]; exact p2 _ (by omega)) ?_
      refine x_V (q := 43) (ci := 6) dX6_undo_40 rfl kX6_undo_132 (k_become hs hr (v := up v 0 6 ((S.2.1.length : Int) - 1)) hHh (by omega) (hHR.cong (fun d g1 g2 => up_n _ _ _ (by omega))) hHV) rfl rfl (hs _ _ rfl) (by decide) rfl (Nat.le_of_ble_eq_true rfl) ⟨rfl, rfl⟩ ⟨Nat.zero_le _, Nat.zero_le _⟩ (fun r1 h1 hp => ?_)
      obtain ⟨rfl, u, rfl, g1, g2, g3⟩ := hp
      refine x_al_n (q := 44) dX6_undo_43 rfl rfl ?_
      refine x_getIe (q := 47) (z := (S.2.1.length : Int) - 1) dX6_undo_44 rfl fX6_129 (hs _ _ rfl) rfl (by rw [g3 0 (by decide), up_at, if_pos rfl]) ?_
      rw [hO]
      have hR0 : RC (S.1, S.2.1.dropLast, S.2.2) rf (up v 0 6 ((S.2.1.length : Int) - 1)) := by
        obtain ⟨b1, b2, b3, b4⟩ := b
        have hk : ∀ d, d ≠ 0 → up v 0 6 ((S.2.1.length : Int) - 1) d = v d := fun d h0 => up_n _ _ _ h0
        refine ⟨a1.cong (fun d g1 g2 => hk d (by omega)), a2.cong (hk 10 (by omega)) (hk 11 (by omega)) (hk 12 (by omega)), ⟨π, p1, p2, fun i hh hi => ?_⟩, by rw [up_at, if_pos rfl]; show _ = ((S.2.1.dropLast.length : Nat) : Int); rw [List.length_dropLast]; omega, ⟨by rw [hk 68 (by omega)]; exact b1, by rw [hk 68 (by omega)]; exact b2, fun hh hi => (b3 hh hi).cong (fun d g1 g2 => hk d (by omega)), fun hh hi => (b4 hh hi).cong (fun d g1 g2 => hk d (by omega))⟩, ⟨by rw [up_at, if_neg (by decide)]; exact c.1, fun i hi => by rw [hk 69 (by omega)]; exact c.2 i hi⟩, ⟨by rw [hk 1 (by omega)]; exact d.1, fun i hi => by rw [hk 2 (by omega)]; exact d.2 i hi⟩⟩
        have hi0 : S.2.1.dropLast[i]? = some hh := hi
        rw [List.getElem?_dropLast] at hi0
        split at hi0
        · have := p1.1 i (by omega)
          exact (p3 i hh hi0).cong (fun d g1 g2 => hk d (by omega))
        · cases hi0
      refine x_iret dX6_undo_47 rfl rfl (Nat.zero_le _) ⟨rfl, rf, u, rfl, hr, RC_cur hR0 (by show S.2.1.dropLast.length ≤ 6; rw [List.length_dropLast]; omega) g3 g1 g2, ?_, fun d hd => ⟨by rw [g3 d (by omega), up_n _ _ _ (by omega)], rfl⟩⟩
      obtain ⟨v1, v2, v3, v4, v5, v6, v7, v8⟩ := hV
      exact ⟨hHV, by show S.2.1.dropLast.length ≤ 6; rw [List.length_dropLast]; omega, fun h hh => v3 h (List.dropLast_subset _ hh), v4, v5, v6, v7, v8⟩
    · skip
      exact absurd (by omega) c_14
set_option maxHeartbeats 4000000 in
set_option maxRecDepth 100000 in
theorem k_back (hs : Ext sh) (hr : Rok rf) (hR : RC S rf v) (hV : SV S) {i : Int} : Cv g mX6_back [aR 0, aI i] (sh, rf, v) (cP (o_back S i) sh rf v) := by
  obtain ⟨⟨n0, n1, n2, n3, n4⟩, nb, nn, nse, nw⟩ := hR.now
  obtain ⟨x0, x1, x2, x3, x4, x5⟩ := hR.2.1
  have hv := hV.1.1
  have hS := nS_rng hv
  have hd := nd_rng hv
  have hq := pw16 hv.2.2.2.1 hv.2.2.2.2
  have hvb : VBan (v 5 0) (v 5 1) (v 5 2) := by rw [n0, n1, n2]; exact hv.1
  obtain ⟨hvB, hp1, hp2, hq1, hq2⟩ := hv
  have hmk := mk_rng (Gd S.1.1) (nS S.1.1)
  obtain ⟨a1, a2, ⟨π, p1, p2, p3⟩, a4, ⟨b1, b2, b3, b4⟩, c, d⟩ := id hR
  refine x_entry (ls := [some (aR 0), some (aI i)]) rfl rfl (Nat.le_of_ble_eq_true rfl) ?_
  refine x_il_n (q := 1) dX6_back_0 rfl rfl ?_
  refine x_SI (q := 4) dX6_back_1 rfl kX6_back_199 (k_isNoImage) rfl rfl (Nat.le_of_ble_eq_true rfl) ⟨rfl, rfl⟩ ⟨Nat.zero_le _, Nat.zero_le _⟩ ?_
  refine x_if_eq (t := 9) (q := 7) dX6_back_4 rfl rfl (fun c_4 => ?_) (fun c_4 => ?_)
  · skip
    have d_4 := of_decide_eq_false (b2i_0.mp c_4)
    refine x_al_n (q := 10) dX6_back_9 rfl rfl ?_
    refine x_getR (q := 13) (o := some (68)) dX6_back_10 rfl fX6_51 (hs _ _ rfl) rfl (hr _ _ _ rfl) ?_
    obtain ⟨j, rfl⟩ := Int.eq_ofNat_of_zero_le (show 0 ≤ i by omega)
    have hj : j < 2 := by omega
    have hIh := heldI (sh := sh) (rf := rf) hs hr hj
    refine x_il_n (q := 14) dX6_back_13 rfl rfl ?_
    refine x_zalde (q := 15) (z := v 68 j) dX6_back_14 rfl (hs _ _ rfl) (by omega) (by omega) (by rw [Int.toNat_natCast]) ?_
    refine x_if_ne (t := 21) (q := 18) dX6_back_15 rfl rfl (fun c_15 => ?_) (fun c_15 => ?_)
    · skip
      obtain ⟨H, hH⟩ : ∃ H, imgO S (j : Int) = some H := by rcases (show j = 0 ∨ j = 1 by omega) with rfl | rfl; exact Option.isSome_iff_exists.mp (b2i_n0.mp (show ¬ b2i S.2.2.1.1.isSome = 0 by rw [← b1]; exact c_15)); exact Option.isSome_iff_exists.mp (b2i_n0.mp (show ¬ b2i S.2.2.1.2.isSome = 0 by rw [← b2]; exact c_15))
      have hO : o_back S (j : Int) = ((H.2.1 : Int), H, [], S.2.2) := by unfold o_back; rw [if_neg (by omega), hH]
      have hHR : HR v (56 + 6 * j) H := by rcases (show j = 0 ∨ j = 1 by omega) with rfl | rfl; exact b3 H hH; exact b4 H hH
      have hHV : HV H := by rcases (show j = 0 ∨ j = 1 by omega) with rfl | rfl; exact hV.2.2.2.1 H hH; exact hV.2.2.2.2.1 H hH
      refine x_al_n (q := 22) dX6_back_21 rfl rfl ?_
      refine x_al_n (q := 23) dX6_back_22 rfl rfl ?_
      refine x_getR (q := 26) (o := some (55)) dX6_back_23 rfl fX6_48 (hs _ _ rfl) rfl (hr _ _ _ rfl) ?_
      refine x_il_n (q := 27) dX6_back_26 rfl rfl ?_
      refine x_aald (q := 28) (o := some (56 + 6 * j)) dX6_back_27 rfl (hs _ _ rfl) (by omega) (by omega) (by rw [Int.toNat_natCast]; rcases (show j = 0 ∨ j = 1 by omega) with rfl | rfl <;> exact hr _ _ _ rfl) ?_
      refine x_V (q := 31) (ci := 6) dX6_back_28 rfl kX6_back_132 (k_become hs hr (v := v) hIh (by omega) hHR hHV) rfl rfl (hs _ _ rfl) (by decide) rfl (Nat.le_of_ble_eq_true rfl) ⟨rfl, rfl⟩ ⟨Nat.zero_le _, Nat.zero_le _⟩ (fun r1 h1 hp => ?_)
      obtain ⟨rfl, u, rfl, g1, g2, g3⟩ := hp
      refine x_al_n (q := 32) dX6_back_31 rfl rfl ?_
      refine x_ic (q := 33) dX6_back_32 rfl rfl ?_
      refine x_putI (q := 36) dX6_back_33 rfl fX6_129 (hs _ _ rfl) (.inl rfl) rfl ?_
      refine x_al_n (q := 37) dX6_back_36 rfl rfl ?_
      refine x_getR (q := 40) (o := some (4)) dX6_back_37 rfl fX6_26 (hs _ _ rfl) rfl (hr _ _ _ rfl) ?_
      refine x_getR (q := 43) (o := some (6)) dX6_back_40 rfl fX6_66 (hs _ _ rfl) rfl (hr _ _ _ rfl) ?_
      refine x_getIe (q := 46) (z := (H.2.1 : Int)) dX6_back_43 rfl fX6_109 (hs _ _ rfl) rfl (by rw [up_n _ _ _ (by decide)]; exact g1.2.1) ?_
      rw [hO]
      have hRu := RC_cur hR hV.2.1 g3 g1 g2
      obtain ⟨e1, e2, ⟨π2, q1, q2, q3⟩, e4, ⟨f1, f2, f3, f4⟩, ⟨h1, h2⟩, ⟨i1, i2⟩⟩ := hRu
      have hk : ∀ d, d ≠ 0 → up u 0 6 0 d = u d := fun d h0 => up_n _ _ _ h0
      refine x_iret dX6_back_46 rfl rfl (Nat.zero_le _) ⟨rfl, rf, _, rfl, hr, ⟨e1.cong (fun d g1 g2 => hk d (by omega)), e2.cong (hk 10 (by omega)) (hk 11 (by omega)) (hk 12 (by omega)), ⟨π2, q1, q2, fun i hh hi => by cases hi⟩, by rw [up_at, if_pos rfl]; rfl, ⟨by rw [hk 68 (by omega)]; exact f1, by rw [hk 68 (by omega)]; exact f2, fun hh hi => (f3 hh hi).cong (fun d g1 g2 => hk d (by omega)), fun hh hi => (f4 hh hi).cong (fun d g1 g2 => hk d (by omega))⟩, ⟨by rw [up_at, if_neg (by decide)]; exact h1, fun i hi => by rw [hk 69 (by omega)]; exact h2 i hi⟩, ⟨by rw [hk 1 (by omega)]; exact i1, fun i hi => by rw [hk 2 (by omega)]; exact i2 i hi⟩⟩, ?_, fun d hd => ⟨by rw [hk d (by omega), g3 d (by omega)], rfl⟩⟩
      obtain ⟨v1, v2, v3, v4, v5, v6, v7, v8⟩ := hV
      exact ⟨hHV, Nat.zero_le _, fun h hh => absurd hh List.not_mem_nil, v4, v5, v6, v7, v8⟩
    · skip
      have hN : imgO S (j : Int) = none := by rcases (show j = 0 ∨ j = 1 by omega) with rfl | rfl; exact Option.not_isSome_iff_eq_none.mp (show ¬ S.2.2.1.1.isSome = true by rw [b2i_0.mp (b1.symm.trans c_15)]; decide); exact Option.not_isSome_iff_eq_none.mp (show ¬ S.2.2.1.2.isSome = true by rw [b2i_0.mp (b2.symm.trans c_15)]; decide)
      have hO : o_back S (j : Int) = (-2, S) := by unfold o_back; rw [if_neg (by omega), hN]
      refine x_bi (q := 20) dX6_back_18 rfl rfl ?_
      exact x_iret dX6_back_20 rfl rfl (Nat.zero_le _) (cP_same hr hR hV (by rw [hO]) (by rw [hO]))
  · skip
    have d_4 := of_decide_eq_true (b2i_n0.mp c_4)
    refine x_ic (q := 8) dX6_back_7 rfl rfl ?_
    exact x_iret dX6_back_8 rfl rfl (Nat.zero_le _) (cP_same hr hR hV (by rw [o_back, if_pos (by omega)]) (by rw [o_back, if_pos (by omega)]))
end CLC

/-! ===== the class: what it answers, the state unchanged ===== -/
def HR (v : Nat → Nat → Int) (e : Nat) (H : Hd) : Prop := banOf v (e + 1) = H.1 ∧ v (e + 2) 3 = (H.2.1 : Int) ∧ v (e + 2) 4 = H.2.2.2.2.2 ∧ ∀ i, i < H.2.1 → v (e + 3) i = H.2.2.1 i ∧ v (e + 4) i = H.2.2.2.1 i ∧ v (e + 5) i = H.2.2.2.2.1 i
def Pm (π : Nat → Nat) : Prop := (∀ i, i < 6 → π i < 6) ∧ ∀ i j, i < 6 → j < 6 → π i = π j → i = j
def RC (S : St) (rf : Nat → Nat → Option Nat) (v : Nat → Nat → Int) : Prop := HR v 4 S.1 ∧ ArcsOk v S.1.1 ∧ (∃ π : Nat → Nat, Pm π ∧ (∀ i, i < 6 → rf 18 i = some (19 + 6 * π i)) ∧ ∀ i h, S.2.1[i]? = some h → HR v (19 + 6 * π i) h) ∧ v 0 6 = (S.2.1.length : Int) ∧
  (v 68 0 = b2i S.2.2.1.1.isSome ∧ v 68 1 = b2i S.2.2.1.2.isSome ∧ (∀ h, S.2.2.1.1 = some h → HR v 56 h) ∧ (∀ h, S.2.2.1.2 = some h → HR v 62 h)) ∧ (v 0 10 = (S.2.2.2.1.1 : Int) ∧ ∀ i, i < S.2.2.2.1.1 → v 69 i = S.2.2.2.1.2 i) ∧ (v 1 1 = (S.2.2.2.2.1 : Int) ∧ ∀ i, i < S.2.2.2.2.1 → v 2 i = S.2.2.2.2.2 i)
theorem HR.cong {v u : Nat → Nat → Int} {e : Nat} {H : Hd} (h : HR v e H) (h1 : ∀ d, e + 1 ≤ d → d ≤ e + 5 → u d = v d) : HR u e H := by
  obtain ⟨a1, a2, a3, a4⟩ := h
  refine ⟨by rw [banOf_cong (h1 (e + 1) (by omega) (by omega))]; exact a1, by rw [h1 (e + 2) (by omega) (by omega)]; exact a2, by rw [h1 (e + 2) (by omega) (by omega)]; exact a3, fun i hi => ?_⟩
  rw [h1 (e + 3) (by omega) (by omega), h1 (e + 4) (by omega) (by omega), h1 (e + 5) (by omega) (by omega)]
  exact a4 i hi
theorem ArcsOk.cong {v u : Nat → Nat → Int} {c : Cfg} (h : ArcsOk v c) (h1 : u 10 = v 10) (h2 : u 11 = v 11) (h3 : u 12 = v 12) : ArcsOk u c := by
  obtain ⟨a1, a2, a3, a4, a5, a6⟩ := h
  refine ⟨by rw [h1]; exact a1, by rw [h1]; exact a2, by rw [h1]; exact a3, by rw [h1]; exact a4, fun j hj => by rw [h2]; exact a5 j hj, fun j hj => by rw [h3]; exact a6 j hj⟩
theorem RC.cong {S : St} {rf : Nat → Nat → Option Nat} {v u : Nat → Nat → Int} (h : RC S rf v) (h6 : S.2.1.length ≤ 6) (h1 : ∀ d, d < 70 → d ≠ 1 → d ≠ 3 → d ≠ 13 → d ≠ 14 → d ≠ 16 → d ≠ 17 → u d = v d) (h2 : u 1 1 = v 1 1) : RC S rf u := by
  obtain ⟨a1, a2, ⟨π, p1, p2, p3⟩, a4, ⟨b1, b2, b3, b4⟩, ⟨c1, c2⟩, ⟨d1, d2⟩⟩ := h
  refine ⟨a1.cong (fun d g1 g2 => h1 d (by omega) (by omega) (by omega) (by omega) (by omega) (by omega) (by omega)), a2.cong (h1 10 (by decide) (by decide) (by decide) (by decide) (by decide) (by decide) (by decide)) (h1 11 (by decide) (by decide) (by decide) (by decide) (by decide) (by decide) (by decide)) (h1 12 (by decide) (by decide) (by decide) (by decide) (by decide) (by decide) (by decide)), ⟨π, p1, p2, fun i hh hi => ?_⟩, ?_, ⟨?_, ?_, fun hh hi => ?_, fun hh hi => ?_⟩, ⟨?_, fun i hi => ?_⟩, ⟨?_, fun i hi => ?_⟩⟩
  · have hl : i < S.2.1.length := (List.getElem?_eq_some_iff.mp hi).1
    have := p1.1 i (by omega)
    exact (p3 i hh hi).cong (fun d g1 g2 => h1 d (by omega) (by omega) (by omega) (by omega) (by omega) (by omega) (by omega))
  · rw [h1 0 (by decide) (by decide) (by decide) (by decide) (by decide) (by decide) (by decide)]; exact a4
  · rw [h1 68 (by decide) (by decide) (by decide) (by decide) (by decide) (by decide) (by decide)]; exact b1
  · rw [h1 68 (by decide) (by decide) (by decide) (by decide) (by decide) (by decide) (by decide)]; exact b2
  · exact (b3 hh hi).cong (fun d g1 g2 => h1 d (by omega) (by omega) (by omega) (by omega) (by omega) (by omega) (by omega))
  · exact (b4 hh hi).cong (fun d g1 g2 => h1 d (by omega) (by omega) (by omega) (by omega) (by omega) (by omega) (by omega))
  · rw [h1 0 (by decide) (by decide) (by decide) (by decide) (by decide) (by decide) (by decide)]; exact c1
  · rw [h1 69 (by decide) (by decide) (by decide) (by decide) (by decide) (by decide) (by decide)]; exact c2 i hi
  · rw [h2]; exact d1
  · rw [h1 2 (by decide) (by decide) (by decide) (by decide) (by decide) (by decide) (by decide)]; exact d2 i hi

/-- a call's end: the answer, the state then, the Model's cells as they were -/
def cP (z : Int × St) (sh : List (Nat × Nat)) (rf : Nat → Nat → Option Nat) (v : Nat → Nat → Int) : PT := fun r h1 => r = some (aI z.1) ∧ ∃ rf2 u, h1 = (sh, rf2, u) ∧ Rok rf2 ∧ RC z.2 rf2 u ∧ SV z.2 ∧ ∀ d, 70 ≤ d → u d = v d ∧ rf2 d = rf d
section CLA
variable {g : GL} {sh : List (Nat × Nat)} {rf : Nat → Nat → Option Nat} {v : Nat → Nat → Int} {S : St}
theorem line6 (hs : Ext sh) (hr : Rok rf) : LineAt sh rf 6 := ⟨hs _ _ rfl, hs _ _ rfl, hs _ _ rfl, hs _ _ rfl, hr _ _ _ rfl, hr _ _ _ rfl, hr _ _ _ rfl⟩
theorem held4 (hs : Ext sh) (hr : Rok rf) : HeldAt sh rf 4 := ⟨hs _ _ rfl, hs _ _ rfl, hr _ _ _ rfl, hr _ _ _ rfl, line6 hs hr⟩
theorem RC.now (h : RC S rf v) : (v 5 0 = S.1.1.1 ∧ v 5 1 = S.1.1.2.1 ∧ v 5 2 = S.1.1.2.2.1 ∧ v 5 3 = S.1.1.2.2.2.1 ∧ v 5 4 = S.1.1.2.2.2.2) ∧ banOf v 5 = S.1.1 ∧ v 6 3 = (S.1.2.1 : Int) ∧ v 6 4 = S.1.2.2.2.2.2 ∧ ∀ i, i < S.1.2.1 → v 7 i = S.1.2.2.1 i ∧ v 8 i = S.1.2.2.2.1 i ∧ v 9 i = S.1.2.2.2.2.1 i := by
  obtain ⟨⟨a1, a2, a3, a4⟩, -⟩ := h
  exact ⟨⟨congrArg (fun z : Cfg => z.1) a1, congrArg (fun z : Cfg => z.2.1) a1, congrArg (fun z : Cfg => z.2.2.1) a1, congrArg (fun z : Cfg => z.2.2.2.1) a1, congrArg (fun z : Cfg => z.2.2.2.2) a1⟩, a1, a2, a3, a4⟩
theorem cP_same {z : Int} {S2 : Int × St} (hr : Rok rf) (hR : RC S rf v) (hV : SV S) (e : z = S2.1) (e2 : S2.2 = S) : cP S2 sh rf v (some (aI z)) (sh, rf, v) := ⟨by rw [e], rf, v, rfl, hr, by rw [e2]; exact hR, by rw [e2]; exact hV, fun _ _ => ⟨rfl, rfl⟩⟩

set_option maxHeartbeats 4000000 in
set_option maxRecDepth 100000 in
theorem k_isNoState (hs : Ext sh) (hr : Rok rf) (hR : RC S rf v) (hV : SV S) {s : Int} : Cv g mX6_isNoState [aR 0, aI s] (sh, rf, v) (retI (b2i (decide (s < 0 ∨ (nS S.1.1 : Int) ≤ s))) (sh, rf, v)) := by
  obtain ⟨⟨n0, n1, n2, n3, n4⟩, nb, nn, nse, nw⟩ := hR.now
  obtain ⟨x0, x1, x2, x3, x4, x5⟩ := hR.2.1
  have hv := hV.1.1
  have hS := nS_rng hv
  have hd := nd_rng hv
  have hq := pw16 hv.2.2.2.1 hv.2.2.2.2
  have hvb : VBan (v 5 0) (v 5 1) (v 5 2) := by rw [n0, n1, n2]; exact hv.1
  obtain ⟨hvB, hp1, hp2, hq1, hq2⟩ := hv
  have hmk := mk_rng (Gd S.1.1) (nS S.1.1)
  refine x_entry (ls := [some (aR 0), some (aI s)]) rfl rfl (Nat.le_of_ble_eq_true rfl) ?_
  refine x_il_n (q := 1) dX6_isNoState_0 rfl rfl ?_
  refine x_if_lt (t := 15) (q := 4) dX6_isNoState_1 rfl rfl (fun c_1 => ?_) (fun c_1 => ?_)
  · skip
    refine x_ic (q := 16) dX6_isNoState_15 rfl rfl ?_
    refine x_goto (t := 20) dX6_isNoState_16 rfl ?_
    exact x_zret dX6_isNoState_20 rfl (by first | exact .inl rfl | exact .inr rfl | exact b2i_01 _) rfl (Nat.zero_le _) (retI_mk (by first | (rw [decide_eq_true (by omega)]; rfl) | (rw [decide_eq_false (by omega)]; rfl)))
  · skip
    refine x_il_n (q := 5) dX6_isNoState_4 rfl rfl ?_
    refine x_al_n (q := 6) dX6_isNoState_5 rfl rfl ?_
    refine x_getR (q := 9) (o := some (10)) dX6_isNoState_6 rfl fX6_33 (hs _ _ rfl) rfl (hr _ _ _ rfl) ?_
    refine x_getIe (q := 12) (z := (nS S.1.1 : Int)) dX6_isNoState_9 rfl fX6_99 (hs _ _ rfl) rfl (x0) ?_
    refine x_ic_lt (t := 19) (q := 15) dX6_isNoState_12 rfl rfl (fun c_12 => ?_) (fun c_12 => ?_)
    · skip
      refine x_ic (q := 20) dX6_isNoState_19 rfl rfl ?_
      exact x_zret dX6_isNoState_20 rfl (by first | exact .inl rfl | exact .inr rfl | exact b2i_01 _) rfl (Nat.zero_le _) (retI_mk (by first | (rw [decide_eq_true (by omega)]; rfl) | (rw [decide_eq_false (by omega)]; rfl)))
    · skip
      refine x_ic (q := 16) dX6_isNoState_15 rfl rfl ?_
      refine x_goto (t := 20) dX6_isNoState_16 rfl ?_
      exact x_zret dX6_isNoState_20 rfl (by first | exact .inl rfl | exact .inr rfl | exact b2i_01 _) rfl (Nat.zero_le _) (retI_mk (by first | (rw [decide_eq_true (by omega)]; rfl) | (rw [decide_eq_false (by omega)]; rfl)))
set_option maxHeartbeats 4000000 in
set_option maxRecDepth 100000 in
theorem k_isNoWord (hs : Ext sh) (hr : Rok rf) (hR : RC S rf v) (hV : SV S) {w : Int} : Cv g mX6_isNoWord [aR 0, aI w] (sh, rf, v) (retI (b2i (decide (w < 0 ∨ 2 ^ S.1.1.2.2.2.2.toNat ≤ w))) (sh, rf, v)) := by
  obtain ⟨⟨n0, n1, n2, n3, n4⟩, nb, nn, nse, nw⟩ := hR.now
  obtain ⟨x0, x1, x2, x3, x4, x5⟩ := hR.2.1
  have hv := hV.1.1
  have hS := nS_rng hv
  have hd := nd_rng hv
  have hq := pw16 hv.2.2.2.1 hv.2.2.2.2
  have hvb : VBan (v 5 0) (v 5 1) (v 5 2) := by rw [n0, n1, n2]; exact hv.1
  obtain ⟨hvB, hp1, hp2, hq1, hq2⟩ := hv
  have hmk := mk_rng (Gd S.1.1) (nS S.1.1)
  refine x_entry (ls := [some (aR 0), some (aI w)]) rfl rfl (Nat.le_of_ble_eq_true rfl) ?_
  refine x_il_n (q := 1) dX6_isNoWord_0 rfl rfl ?_
  refine x_if_lt (t := 18) (q := 4) dX6_isNoWord_1 rfl rfl (fun c_1 => ?_) (fun c_1 => ?_)
  · skip
    refine x_ic (q := 19) dX6_isNoWord_18 rfl rfl ?_
    refine x_goto (t := 23) dX6_isNoWord_19 rfl ?_
    exact x_zret dX6_isNoWord_23 rfl (by first | exact .inl rfl | exact .inr rfl | exact b2i_01 _) rfl (Nat.zero_le _) (retI_mk (by first | (rw [decide_eq_true (by omega)]; rfl) | (rw [decide_eq_false (by omega)]; rfl)))
  · skip
    refine x_il_n (q := 5) dX6_isNoWord_4 rfl rfl ?_
    refine x_al_n (q := 6) dX6_isNoWord_5 rfl rfl ?_
    refine x_getR (q := 9) (o := some (4)) dX6_isNoWord_6 rfl fX6_26 (hs _ _ rfl) rfl (hr _ _ _ rfl) ?_
    refine x_getR (q := 12) (o := some (5)) dX6_isNoWord_9 rfl fX6_59 (hs _ _ rfl) rfl (hr _ _ _ rfl) ?_
    refine x_VI (q := 15) (ci := 1) dX6_isNoWord_12 rfl kX6_isNoWord_213 (c_wordCount (c := 5) (hs _ _ rfl) (by rw [n4]; omega) (by rw [n4]; omega)) rfl rfl (hs _ _ rfl) (by decide) rfl (Nat.le_of_ble_eq_true rfl) ⟨rfl, rfl⟩ ⟨Nat.zero_le _, Nat.zero_le _⟩ ?_
    rw [n4]
    refine x_ic_lt (t := 22) (q := 18) dX6_isNoWord_15 rfl rfl (fun c_15 => ?_) (fun c_15 => ?_)
    · skip
      refine x_ic (q := 23) dX6_isNoWord_22 rfl rfl ?_
      exact x_zret dX6_isNoWord_23 rfl (by first | exact .inl rfl | exact .inr rfl | exact b2i_01 _) rfl (Nat.zero_le _) (retI_mk (by first | (rw [decide_eq_true (by omega)]; rfl) | (rw [decide_eq_false (by omega)]; rfl)))
    · skip
      refine x_ic (q := 19) dX6_isNoWord_18 rfl rfl ?_
      refine x_goto (t := 23) dX6_isNoWord_19 rfl ?_
      exact x_zret dX6_isNoWord_23 rfl (by first | exact .inl rfl | exact .inr rfl | exact b2i_01 _) rfl (Nat.zero_le _) (retI_mk (by first | (rw [decide_eq_true (by omega)]; rfl) | (rw [decide_eq_false (by omega)]; rfl)))
set_option maxHeartbeats 4000000 in
set_option maxRecDepth 100000 in
theorem k_isNoImage {h : AH} {i : Int} : Cv g mX6_isNoImage [aI i] h (retI (b2i (decide (i < 0 ∨ 2 ≤ i))) h) := by
  refine x_entry (ls := [some (aI i)]) rfl rfl (Nat.le_of_ble_eq_true rfl) ?_
  refine x_il_n (q := 1) dX6_isNoImage_0 rfl rfl ?_
  refine x_if_lt (t := 9) (q := 4) dX6_isNoImage_1 rfl rfl (fun c_1 => ?_) (fun c_1 => ?_)
  · skip
    refine x_ic (q := 10) dX6_isNoImage_9 rfl rfl ?_
    refine x_goto (t := 14) dX6_isNoImage_10 rfl ?_
    exact x_zret dX6_isNoImage_14 rfl (by first | exact .inl rfl | exact .inr rfl | exact b2i_01 _) rfl (Nat.zero_le _) (retI_mk (by first | (rw [decide_eq_true (by omega)]; rfl) | (rw [decide_eq_false (by omega)]; rfl)))
  · skip
    refine x_il_n (q := 5) dX6_isNoImage_4 rfl rfl ?_
    refine x_ic (q := 6) dX6_isNoImage_5 rfl rfl ?_
    refine x_ic_lt (t := 13) (q := 9) dX6_isNoImage_6 rfl rfl (fun c_6 => ?_) (fun c_6 => ?_)
    · skip
      refine x_ic (q := 14) dX6_isNoImage_13 rfl rfl ?_
      exact x_zret dX6_isNoImage_14 rfl (by first | exact .inl rfl | exact .inr rfl | exact b2i_01 _) rfl (Nat.zero_le _) (retI_mk (by first | (rw [decide_eq_true (by omega)]; rfl) | (rw [decide_eq_false (by omega)]; rfl)))
    · skip
      refine x_ic (q := 10) dX6_isNoImage_9 rfl rfl ?_
      refine x_goto (t := 14) dX6_isNoImage_10 rfl ?_
      exact x_zret dX6_isNoImage_14 rfl (by first | exact .inl rfl | exact .inr rfl | exact b2i_01 _) rfl (Nat.zero_le _) (retI_mk (by first | (rw [decide_eq_true (by omega)]; rfl) | (rw [decide_eq_false (by omega)]; rfl)))
set_option maxHeartbeats 4000000 in
set_option maxRecDepth 100000 in
theorem k_step (hs : Ext sh) (hr : Rok rf) (hR : RC S rf v) (hV : SV S) {s b : Int} : Cv g mX6_step [aR 0, aI s, aI b] (sh, rf, v) (retI (a_step S s b) (sh, rf, v)) := by
  obtain ⟨⟨n0, n1, n2, n3, n4⟩, nb, nn, nse, nw⟩ := hR.now
  obtain ⟨x0, x1, x2, x3, x4, x5⟩ := hR.2.1
  have hv := hV.1.1
  have hS := nS_rng hv
  have hd := nd_rng hv
  have hq := pw16 hv.2.2.2.1 hv.2.2.2.2
  have hvb : VBan (v 5 0) (v 5 1) (v 5 2) := by rw [n0, n1, n2]; exact hv.1
  obtain ⟨hvB, hp1, hp2, hq1, hq2⟩ := hv
  have hmk := mk_rng (Gd S.1.1) (nS S.1.1)
  refine x_entry (ls := [some (aR 0), some (aI s), some (aI b)]) rfl rfl (Nat.le_of_ble_eq_true rfl) ?_
  refine x_al_n (q := 1) dX6_step_0 rfl rfl ?_
  refine x_il_n (q := 2) dX6_step_1 rfl rfl ?_
  refine x_VI (q := 5) (ci := 6) dX6_step_2 rfl kX6_step_136 (k_isNoState hs hr hR hV) rfl rfl (hs _ _ rfl) (by decide) rfl (Nat.le_of_ble_eq_true rfl) ⟨rfl, rfl⟩ ⟨Nat.zero_le _, Nat.zero_le _⟩ ?_
  refine x_if_ne (t := 17) (q := 8) dX6_step_5 rfl rfl (fun c_5 => ?_) (fun c_5 => ?_)
  · skip
    have d_5 := of_decide_eq_true (b2i_n0.mp c_5)
    refine x_ic (q := 18) dX6_step_17 rfl rfl ?_
    exact x_iret dX6_step_18 rfl rfl (Nat.zero_le _) (retI_mk (by first | (rw [a_step, if_pos (by omega)]; done) | (rw [a_step, if_neg (by omega)])))
  · skip
    have d_5 := of_decide_eq_false (b2i_0.mp c_5)
    refine x_il_n (q := 9) dX6_step_8 rfl rfl ?_
    refine x_if_lt (t := 17) (q := 12) dX6_step_9 rfl rfl (fun c_9 => ?_) (fun c_9 => ?_)
    · skip
      refine x_ic (q := 18) dX6_step_17 rfl rfl ?_
      exact x_iret dX6_step_18 rfl rfl (Nat.zero_le _) (retI_mk (by first | (rw [a_step, if_pos (by omega)]; done) | (rw [a_step, if_neg (by omega)])))
    · skip
      refine x_il_n (q := 13) dX6_step_12 rfl rfl ?_
      refine x_ic (q := 14) dX6_step_13 rfl rfl ?_
      refine x_ic_le (t := 19) (q := 17) dX6_step_14 rfl rfl (fun c_14 => ?_) (fun c_14 => ?_)
      · skip
        refine x_al_n (q := 20) dX6_step_19 rfl rfl ?_
        refine x_getR (q := 23) (o := some (4)) dX6_step_20 rfl fX6_26 (hs _ _ rfl) rfl (hr _ _ _ rfl) ?_
        refine x_getR (q := 26) (o := some (5)) dX6_step_23 rfl fX6_59 (hs _ _ rfl) rfl (hr _ _ _ rfl) ?_
        refine x_il_n (q := 27) dX6_step_26 rfl rfl ?_
        refine x_il_n (q := 28) dX6_step_27 rfl rfl ?_
        refine x_VI (q := 31) (ci := 1) dX6_step_28 rfl kX6_step_140 (c_lead (c := 5) (hs _ _ rfl) hvb (by omega) (by rw [n0, n1, n2]; omega) (by omega)) rfl rfl (hs _ _ rfl) (by decide) rfl (Nat.le_of_ble_eq_true rfl) ⟨rfl, rfl⟩ ⟨Nat.zero_le _, Nat.zero_le _⟩ ?_
        rw [n0, n1, n2]
        exact x_iret dX6_step_31 rfl rfl (Nat.zero_le _) (retI_mk (by first | (rw [a_step, if_pos (by omega)]; done) | (rw [a_step, if_neg (by omega)])))
      · skip
        refine x_ic (q := 18) dX6_step_17 rfl rfl ?_
        exact x_iret dX6_step_18 rfl rfl (Nat.zero_le _) (retI_mk (by first | (rw [a_step, if_pos (by omega)]; done) | (rw [a_step, if_neg (by omega)])))
set_option maxHeartbeats 4000000 in
set_option maxRecDepth 100000 in
theorem k_arc (hs : Ext sh) (hr : Rok rf) (hR : RC S rf v) (hV : SV S) {s w k : Int} : Cv g mX6_arc [aR 0, aI s, aI w, aI k] (sh, rf, v) (retI (a_arc S s w k) (sh, rf, v)) := by
  obtain ⟨⟨n0, n1, n2, n3, n4⟩, nb, nn, nse, nw⟩ := hR.now
  obtain ⟨x0, x1, x2, x3, x4, x5⟩ := hR.2.1
  have hv := hV.1.1
  have hS := nS_rng hv
  have hd := nd_rng hv
  have hq := pw16 hv.2.2.2.1 hv.2.2.2.2
  have hvb : VBan (v 5 0) (v 5 1) (v 5 2) := by rw [n0, n1, n2]; exact hv.1
  obtain ⟨hvB, hp1, hp2, hq1, hq2⟩ := hv
  have hmk := mk_rng (Gd S.1.1) (nS S.1.1)
  refine x_entry (ls := [some (aR 0), some (aI s), some (aI w), some (aI k)]) rfl rfl (Nat.le_of_ble_eq_true rfl) ?_
  refine x_al_n (q := 1) dX6_arc_0 rfl rfl ?_
  refine x_il_n (q := 2) dX6_arc_1 rfl rfl ?_
  refine x_VI (q := 5) (ci := 6) dX6_arc_2 rfl kX6_arc_136 (k_isNoState hs hr hR hV) rfl rfl (hs _ _ rfl) (by decide) rfl (Nat.le_of_ble_eq_true rfl) ⟨rfl, rfl⟩ ⟨Nat.zero_le _, Nat.zero_le _⟩ ?_
  refine x_if_ne (t := 25) (q := 8) dX6_arc_5 rfl rfl (fun c_5 => ?_) (fun c_5 => ?_)
  · skip
    have d_5 := of_decide_eq_true (b2i_n0.mp c_5)
    refine x_ic (q := 26) dX6_arc_25 rfl rfl ?_
    exact x_iret dX6_arc_26 rfl rfl (Nat.zero_le _) (retI_mk (by first | (rw [a_arc, if_pos (by omega)]; done) | (rw [a_arc, if_neg (by omega), if_pos (by omega)]; done) | (rw [a_arc, if_neg (by omega), if_neg (by omega)])))
  · skip
    have d_5 := of_decide_eq_false (b2i_0.mp c_5)
    refine x_al_n (q := 9) dX6_arc_8 rfl rfl ?_
    refine x_il_n (q := 10) dX6_arc_9 rfl rfl ?_
    refine x_VI (q := 13) (ci := 6) dX6_arc_10 rfl kX6_arc_143 (k_isNoWord hs hr hR hV) rfl rfl (hs _ _ rfl) (by decide) rfl (Nat.le_of_ble_eq_true rfl) ⟨rfl, rfl⟩ ⟨Nat.zero_le _, Nat.zero_le _⟩ ?_
    refine x_if_ne (t := 25) (q := 16) dX6_arc_13 rfl rfl (fun c_13 => ?_) (fun c_13 => ?_)
    · skip
      have d_13 := of_decide_eq_true (b2i_n0.mp c_13)
      refine x_ic (q := 26) dX6_arc_25 rfl rfl ?_
      exact x_iret dX6_arc_26 rfl rfl (Nat.zero_le _) (retI_mk (by first | (rw [a_arc, if_pos (by omega)]; done) | (rw [a_arc, if_neg (by omega), if_pos (by omega)]; done) | (rw [a_arc, if_neg (by omega), if_neg (by omega)])))
    · skip
      have d_13 := of_decide_eq_false (b2i_0.mp c_13)
      refine x_il_n (q := 17) dX6_arc_16 rfl rfl ?_
      refine x_if_lt (t := 25) (q := 20) dX6_arc_17 rfl rfl (fun c_17 => ?_) (fun c_17 => ?_)
      · skip
        refine x_ic (q := 26) dX6_arc_25 rfl rfl ?_
        exact x_iret dX6_arc_26 rfl rfl (Nat.zero_le _) (retI_mk (by first | (rw [a_arc, if_pos (by omega)]; done) | (rw [a_arc, if_neg (by omega), if_pos (by omega)]; done) | (rw [a_arc, if_neg (by omega), if_neg (by omega)])))
      · skip
        refine x_il_n (q := 21) dX6_arc_20 rfl rfl ?_
        refine x_ic (q := 22) dX6_arc_21 rfl rfl ?_
        refine x_ic_le (t := 27) (q := 25) dX6_arc_22 rfl rfl (fun c_22 => ?_) (fun c_22 => ?_)
        · skip
          refine x_il_n (q := 28) dX6_arc_27 rfl rfl ?_
          refine x_if_ne (t := 43) (q := 31) dX6_arc_28 rfl rfl (fun c_28 => ?_) (fun c_28 => ?_)
          · skip
            refine x_al_n (q := 44) dX6_arc_43 rfl rfl ?_
            refine x_getR (q := 47) (o := some (10)) dX6_arc_44 rfl fX6_33 (hs _ _ rfl) rfl (hr _ _ _ rfl) ?_
            refine x_il_n (q := 48) dX6_arc_47 rfl rfl ?_
            refine x_il_n (q := 49) dX6_arc_48 rfl rfl ?_
            refine x_VI (q := 52) (ci := 0) dX6_arc_49 rfl kX6_arc_146 (c_tagOf hs hr) rfl rfl (hs _ _ rfl) (by decide) rfl (Nat.le_of_ble_eq_true rfl) ⟨rfl, rfl⟩ ⟨Nat.zero_le _, Nat.zero_le _⟩ ?_
            rw [tagF_Ex x5]
            exact x_iret dX6_arc_52 rfl rfl (Nat.zero_le _) (retI_mk (by first | (rw [a_arc, if_pos (by omega)]; done) | (rw [a_arc, if_neg (by omega), if_pos (by omega)]; done) | (rw [a_arc, if_neg (by omega), if_neg (by omega)])))
          · skip
            refine x_al_n (q := 32) dX6_arc_31 rfl rfl ?_
            refine x_getR (q := 35) (o := some (10)) dX6_arc_32 rfl fX6_33 (hs _ _ rfl) rfl (hr _ _ _ rfl) ?_
            refine x_il_n (q := 36) dX6_arc_35 rfl rfl ?_
            refine x_il_n (q := 37) dX6_arc_36 rfl rfl ?_
            refine x_VI (q := 40) (ci := 0) dX6_arc_37 rfl kX6_arc_117 (c_endOf hs hr) rfl rfl (hs _ _ rfl) (by decide) rfl (Nat.le_of_ble_eq_true rfl) ⟨rfl, rfl⟩ ⟨Nat.zero_le _, Nat.zero_le _⟩ ?_
            rw [endF_Ex x4]
            refine x_goto (t := 52) dX6_arc_40 rfl ?_
            exact x_iret dX6_arc_52 rfl rfl (Nat.zero_le _) (retI_mk (by first | (rw [a_arc, if_pos (by omega)]; done) | (rw [a_arc, if_neg (by omega), if_pos (by omega)]; done) | (rw [a_arc, if_neg (by omega), if_neg (by omega)])))
        · skip
          refine x_ic (q := 26) dX6_arc_25 rfl rfl ?_
          exact x_iret dX6_arc_26 rfl rfl (Nat.zero_le _) (retI_mk (by first | (rw [a_arc, if_pos (by omega)]; done) | (rw [a_arc, if_neg (by omega), if_pos (by omega)]; done) | (rw [a_arc, if_neg (by omega), if_neg (by omega)])))
set_option maxHeartbeats 4000000 in
set_option maxRecDepth 100000 in
theorem k_state (hs : Ext sh) (hr : Rok rf) (hR : RC S rf v) (hV : SV S) {s k : Int} : Cv g mX6_state [aR 0, aI s, aI k] (sh, rf, v) (retI (a_state S s k) (sh, rf, v)) := by
  obtain ⟨⟨n0, n1, n2, n3, n4⟩, nb, nn, nse, nw⟩ := hR.now
  obtain ⟨x0, x1, x2, x3, x4, x5⟩ := hR.2.1
  have hv := hV.1.1
  have hS := nS_rng hv
  have hd := nd_rng hv
  have hq := pw16 hv.2.2.2.1 hv.2.2.2.2
  have hvb : VBan (v 5 0) (v 5 1) (v 5 2) := by rw [n0, n1, n2]; exact hv.1
  obtain ⟨hvB, hp1, hp2, hq1, hq2⟩ := hv
  have hmk := mk_rng (Gd S.1.1) (nS S.1.1)
  refine x_entry (ls := [some (aR 0), some (aI s), some (aI k)]) rfl rfl (Nat.le_of_ble_eq_true rfl) ?_
  refine x_al_n (q := 1) dX6_state_0 rfl rfl ?_
  refine x_il_n (q := 2) dX6_state_1 rfl rfl ?_
  refine x_VI (q := 5) (ci := 6) dX6_state_2 rfl kX6_state_136 (k_isNoState hs hr hR hV) rfl rfl (hs _ _ rfl) (by decide) rfl (Nat.le_of_ble_eq_true rfl) ⟨rfl, rfl⟩ ⟨Nat.zero_le _, Nat.zero_le _⟩ ?_
  refine x_if_ne (t := 17) (q := 8) dX6_state_5 rfl rfl (fun c_5 => ?_) (fun c_5 => ?_)
  · skip
    have d_5 := of_decide_eq_true (b2i_n0.mp c_5)
    refine x_ic (q := 18) dX6_state_17 rfl rfl ?_
    exact x_iret dX6_state_18 rfl rfl (Nat.zero_le _) (retI_mk (by first | (rw [a_state, if_pos (by omega)]; done) | (rw [a_state, if_neg (by omega), if_pos (by omega)]; done) | (rw [a_state, if_neg (by omega), if_neg (by omega), hb]; rfl)))
  · skip
    have d_5 := of_decide_eq_false (b2i_0.mp c_5)
    refine x_il_n (q := 9) dX6_state_8 rfl rfl ?_
    refine x_if_lt (t := 17) (q := 12) dX6_state_9 rfl rfl (fun c_9 => ?_) (fun c_9 => ?_)
    · skip
      refine x_ic (q := 18) dX6_state_17 rfl rfl ?_
      exact x_iret dX6_state_18 rfl rfl (Nat.zero_le _) (retI_mk (by first | (rw [a_state, if_pos (by omega)]; done) | (rw [a_state, if_neg (by omega), if_pos (by omega)]; done) | (rw [a_state, if_neg (by omega), if_neg (by omega), hb]; rfl)))
    · skip
      refine x_il_n (q := 13) dX6_state_12 rfl rfl ?_
      refine x_ic (q := 14) dX6_state_13 rfl rfl ?_
      refine x_ic_le (t := 19) (q := 17) dX6_state_14 rfl rfl (fun c_14 => ?_) (fun c_14 => ?_)
      · skip
        refine x_il_n (q := 20) dX6_state_19 rfl rfl ?_
        refine x_if_ne (t := 32) (q := 23) dX6_state_20 rfl rfl (fun c_20 => ?_) (fun c_20 => ?_)
        · skip
          refine x_al_n (q := 33) dX6_state_32 rfl rfl ?_
          refine x_getR (q := 36) (o := some (10)) dX6_state_33 rfl fX6_33 (hs _ _ rfl) rfl (hr _ _ _ rfl) ?_
          refine x_il_n (q := 37) dX6_state_36 rfl rfl ?_
          refine x_VI (q := 40) (ci := 0) dX6_state_37 rfl kX6_state_153 (c_isGood hs hr (by rw [x1]; omega)) rfl rfl (hs _ _ rfl) (by decide) rfl (Nat.le_of_ble_eq_true rfl) ⟨rfl, rfl⟩ ⟨Nat.zero_le _, Nat.zero_le _⟩ ?_
          rw [x1]
          refine x_if_eq (t := 47) (q := 43) dX6_state_40 rfl rfl (fun c_40 => ?_) (fun c_40 => ?_)
          · skip
            have hb := b2i_0.mp c_40
            refine x_ic (q := 48) dX6_state_47 rfl rfl ?_
            exact x_iret dX6_state_48 rfl rfl (Nat.zero_le _) (retI_mk (by first | (rw [a_state, if_pos (by omega)]; done) | (rw [a_state, if_neg (by omega), if_pos (by omega)]; done) | (rw [a_state, if_neg (by omega), if_neg (by omega), hb]; rfl)))
          · skip
            have hb := b2i_n0.mp c_40
            refine x_ic (q := 44) dX6_state_43 rfl rfl ?_
            refine x_goto (t := 48) dX6_state_44 rfl ?_
            exact x_iret dX6_state_48 rfl rfl (Nat.zero_le _) (retI_mk (by first | (rw [a_state, if_pos (by omega)]; done) | (rw [a_state, if_neg (by omega), if_pos (by omega)]; done) | (rw [a_state, if_neg (by omega), if_neg (by omega), hb]; rfl)))
        · skip
          refine x_al_n (q := 24) dX6_state_23 rfl rfl ?_
          refine x_getR (q := 27) (o := some (10)) dX6_state_24 rfl fX6_33 (hs _ _ rfl) rfl (hr _ _ _ rfl) ?_
          refine x_il_n (q := 28) dX6_state_27 rfl rfl ?_
          refine x_VI (q := 31) (ci := 0) dX6_state_28 rfl kX6_state_149 (c_arcsFrom hs hr) rfl rfl (hs _ _ rfl) (by decide) rfl (Nat.le_of_ble_eq_true rfl) ⟨rfl, rfl⟩ ⟨Nat.zero_le _, Nat.zero_le _⟩ ?_
          rw [cnt_cong (g := fun w => !decide (Ex (eT S.1.1) s w = -9)) (fun w _ => by rw [endF_Ex x4])]
          exact x_iret dX6_state_31 rfl rfl (Nat.zero_le _) (retI_mk (by first | (rw [a_state, if_pos (by omega)]; done) | (rw [a_state, if_neg (by omega), if_pos (by omega)]; done) | (rw [a_state, if_neg (by omega), if_neg (by omega), hb]; rfl)))
      · skip
        refine x_ic (q := 18) dX6_state_17 rfl rfl ?_
        exact x_iret dX6_state_18 rfl rfl (Nat.zero_le _) (retI_mk (by first | (rw [a_state, if_pos (by omega)]; done) | (rw [a_state, if_neg (by omega), if_pos (by omega)]; done) | (rw [a_state, if_neg (by omega), if_neg (by omega), hb]; rfl)))
set_option maxHeartbeats 4000000 in
set_option maxRecDepth 100000 in
theorem k_weight (hs : Ext sh) (hr : Rok rf) (hR : RC S rf v) (hV : SV S) {s l k : Int} : Cv g mX6_weight [aR 0, aI s, aI l, aI k] (sh, rf, v) ((fun r h1 => r = some (aI (a_weight S s l k)) ∧ ∃ u, h1 = (sh, rf, u) ∧ ∀ d, d ≠ 16 → d ≠ 17 → u d = v d)) := by
  obtain ⟨⟨n0, n1, n2, n3, n4⟩, nb, nn, nse, nw⟩ := hR.now
  obtain ⟨x0, x1, x2, x3, x4, x5⟩ := hR.2.1
  have hv := hV.1.1
  have hS := nS_rng hv
  have hd := nd_rng hv
  have hq := pw16 hv.2.2.2.1 hv.2.2.2.2
  have hvb : VBan (v 5 0) (v 5 1) (v 5 2) := by rw [n0, n1, n2]; exact hv.1
  obtain ⟨hvB, hp1, hp2, hq1, hq2⟩ := hv
  have hmk := mk_rng (Gd S.1.1) (nS S.1.1)
  refine x_entry (ls := [some (aR 0), some (aI s), some (aI l), some (aI k)]) rfl rfl (Nat.le_of_ble_eq_true rfl) ?_
  refine x_al_n (q := 1) dX6_weight_0 rfl rfl ?_
  refine x_il_n (q := 2) dX6_weight_1 rfl rfl ?_
  refine x_VI (q := 5) (ci := 6) dX6_weight_2 rfl kX6_weight_136 (k_isNoState hs hr hR hV) rfl rfl (hs _ _ rfl) (by decide) rfl (Nat.le_of_ble_eq_true rfl) ⟨rfl, rfl⟩ ⟨Nat.zero_le _, Nat.zero_le _⟩ ?_
  refine x_if_ne (t := 28) (q := 8) dX6_weight_5 rfl rfl (fun c_5 => ?_) (fun c_5 => ?_)
  · skip
    have d_5 := of_decide_eq_true (b2i_n0.mp c_5)
    refine x_ic (q := 29) dX6_weight_28 rfl rfl ?_
    first
    | exact x_iret dX6_weight_29 rfl rfl (Nat.zero_le _) ⟨by rw [a_weight, if_pos (by omega)], v, rfl, fun _ _ _ => rfl⟩
    | exact x_iret dX6_weight_29 rfl rfl (Nat.zero_le _) ⟨by rw [a_weight, if_neg (by omega), if_pos (by omega)], u, rfl, e2⟩
    | exact x_iret dX6_weight_29 rfl rfl (Nat.zero_le _) ⟨by rw [a_weight, if_neg (by omega), if_neg (by omega)], u, rfl, e2⟩
  · skip
    have d_5 := of_decide_eq_false (b2i_0.mp c_5)
    refine x_il_n (q := 9) dX6_weight_8 rfl rfl ?_
    refine x_ic (q := 10) dX6_weight_9 rfl rfl ?_
    refine x_ic_lt (t := 28) (q := 13) dX6_weight_10 rfl rfl (fun c_10 => ?_) (fun c_10 => ?_)
    · skip
      refine x_ic (q := 29) dX6_weight_28 rfl rfl ?_
      first
      | exact x_iret dX6_weight_29 rfl rfl (Nat.zero_le _) ⟨by rw [a_weight, if_pos (by omega)], v, rfl, fun _ _ _ => rfl⟩
      | exact x_iret dX6_weight_29 rfl rfl (Nat.zero_le _) ⟨by rw [a_weight, if_neg (by omega), if_pos (by omega)], u, rfl, e2⟩
      | exact x_iret dX6_weight_29 rfl rfl (Nat.zero_le _) ⟨by rw [a_weight, if_neg (by omega), if_neg (by omega)], u, rfl, e2⟩
    · skip
      refine x_il_n (q := 14) dX6_weight_13 rfl rfl ?_
      refine x_bi (q := 16) dX6_weight_14 rfl rfl ?_
      refine x_ic_gt (t := 28) (q := 19) dX6_weight_16 rfl rfl (fun c_16 => ?_) (fun c_16 => ?_)
      · skip
        refine x_ic (q := 29) dX6_weight_28 rfl rfl ?_
        first
        | exact x_iret dX6_weight_29 rfl rfl (Nat.zero_le _) ⟨by rw [a_weight, if_pos (by omega)], v, rfl, fun _ _ _ => rfl⟩
        | exact x_iret dX6_weight_29 rfl rfl (Nat.zero_le _) ⟨by rw [a_weight, if_neg (by omega), if_pos (by omega)], u, rfl, e2⟩
        | exact x_iret dX6_weight_29 rfl rfl (Nat.zero_le _) ⟨by rw [a_weight, if_neg (by omega), if_neg (by omega)], u, rfl, e2⟩
      · skip
        refine x_il_n (q := 20) dX6_weight_19 rfl rfl ?_
        refine x_if_lt (t := 28) (q := 23) dX6_weight_20 rfl rfl (fun c_20 => ?_) (fun c_20 => ?_)
        · skip
          refine x_ic (q := 29) dX6_weight_28 rfl rfl ?_
          first
          | exact x_iret dX6_weight_29 rfl rfl (Nat.zero_le _) ⟨by rw [a_weight, if_pos (by omega)], v, rfl, fun _ _ _ => rfl⟩
          | exact x_iret dX6_weight_29 rfl rfl (Nat.zero_le _) ⟨by rw [a_weight, if_neg (by omega), if_pos (by omega)], u, rfl, e2⟩
          | exact x_iret dX6_weight_29 rfl rfl (Nat.zero_le _) ⟨by rw [a_weight, if_neg (by omega), if_neg (by omega)], u, rfl, e2⟩
        · skip
          refine x_il_n (q := 24) dX6_weight_23 rfl rfl ?_
          refine x_ic (q := 25) dX6_weight_24 rfl rfl ?_
          refine x_ic_le (t := 30) (q := 28) dX6_weight_25 rfl rfl (fun c_25 => ?_) (fun c_25 => ?_)
          · skip
            refine x_al_n (q := 31) dX6_weight_30 rfl rfl ?_
            refine x_getR (q := 34) (o := some (15)) dX6_weight_31 rfl fX6_40 (hs _ _ rfl) rfl (hr _ _ _ rfl) ?_
            refine x_al_n (q := 35) dX6_weight_34 rfl rfl ?_
            refine x_getR (q := 38) (o := some (10)) dX6_weight_35 rfl fX6_33 (hs _ _ rfl) rfl (hr _ _ _ rfl) ?_
            refine x_al_n (q := 39) dX6_weight_38 rfl rfl ?_
            refine x_getR (q := 42) (o := some (4)) dX6_weight_39 rfl fX6_26 (hs _ _ rfl) rfl (hr _ _ _ rfl) ?_
            refine x_getR (q := 45) (o := some (5)) dX6_weight_42 rfl fX6_59 (hs _ _ rfl) rfl (hr _ _ _ rfl) ?_
            refine x_getIe (q := 48) (z := S.1.1.2.2.2.1) dX6_weight_45 rfl fX6_156 (hs _ _ rfl) rfl (n3) ?_
            refine x_il_n (q := 49) dX6_weight_48 rfl rfl ?_
            refine x_V (q := 52) (ci := 4) dX6_weight_49 rfl kX6_weight_159 (c_settle hs hr (e := eT S.1.1) (n := nS S.1.1) (by omega) (by omega) (by omega) (by omega) x4 x0) rfl rfl (hs _ _ rfl) (by decide) rfl (Nat.le_of_ble_eq_true rfl) ⟨rfl, rfl⟩ ⟨Nat.zero_le _, Nat.zero_le _⟩ (fun r1 h1 hp => ?_)
            obtain ⟨rfl, u, rfl, e1, e2⟩ := hp
            have h9 := wk_rng (e := eT S.1.1) (p := S.1.1.2.2.2.1) (x0l_rng (n := nS S.1.1) (show 0 ≤ l by omega) (by omega)) 64
            refine x_il_n (q := 53) dX6_weight_52 rfl rfl ?_
            refine x_if_ne (t := 67) (q := 56) dX6_weight_53 rfl rfl (fun c_53 => ?_) (fun c_53 => ?_)
            · skip
              refine x_al_n (q := 68) dX6_weight_67 rfl rfl ?_
              refine x_getR (q := 71) (o := some (15)) dX6_weight_68 rfl fX6_40 (hs _ _ rfl) rfl (hr _ _ _ rfl) ?_
              refine x_il_n (q := 72) dX6_weight_71 rfl rfl ?_
              refine x_VI (q := 75) (ci := 4) dX6_weight_72 rfl kX6_weight_166 (c_shareOf hs hr (v := u) e1 h9) rfl rfl (hs _ _ rfl) (by decide) rfl (Nat.le_of_ble_eq_true rfl) ⟨rfl, rfl⟩ ⟨Nat.zero_le _, Nat.zero_le _⟩ ?_
              first
              | exact x_iret dX6_weight_75 rfl rfl (Nat.zero_le _) ⟨by rw [a_weight, if_pos (by omega)], v, rfl, fun _ _ _ => rfl⟩
              | exact x_iret dX6_weight_75 rfl rfl (Nat.zero_le _) ⟨by rw [a_weight, if_neg (by omega), if_pos (by omega)], u, rfl, e2⟩
              | exact x_iret dX6_weight_75 rfl rfl (Nat.zero_le _) ⟨by rw [a_weight, if_neg (by omega), if_neg (by omega)], u, rfl, e2⟩
            · skip
              refine x_al_n (q := 57) dX6_weight_56 rfl rfl ?_
              refine x_getR (q := 60) (o := some (15)) dX6_weight_57 rfl fX6_40 (hs _ _ rfl) rfl (hr _ _ _ rfl) ?_
              refine x_il_n (q := 61) dX6_weight_60 rfl rfl ?_
              refine x_VI (q := 64) (ci := 4) dX6_weight_61 rfl kX6_weight_163 (c_at hs hr (v := u) e1) rfl rfl (hs _ _ rfl) (by decide) rfl (Nat.le_of_ble_eq_true rfl) ⟨rfl, rfl⟩ ⟨Nat.zero_le _, Nat.zero_le _⟩ ?_
              refine x_goto (t := 75) dX6_weight_64 rfl ?_
              first
              | exact x_iret dX6_weight_75 rfl rfl (Nat.zero_le _) ⟨by rw [a_weight, if_pos (by omega)], v, rfl, fun _ _ _ => rfl⟩
              | exact x_iret dX6_weight_75 rfl rfl (Nat.zero_le _) ⟨by rw [a_weight, if_neg (by omega), if_pos (by omega)], u, rfl, e2⟩
              | exact x_iret dX6_weight_75 rfl rfl (Nat.zero_le _) ⟨by rw [a_weight, if_neg (by omega), if_neg (by omega)], u, rfl, e2⟩
          · skip
            refine x_ic (q := 29) dX6_weight_28 rfl rfl ?_
            first
            | exact x_iret dX6_weight_29 rfl rfl (Nat.zero_le _) ⟨by rw [a_weight, if_pos (by omega)], v, rfl, fun _ _ _ => rfl⟩
            | exact x_iret dX6_weight_29 rfl rfl (Nat.zero_le _) ⟨by rw [a_weight, if_neg (by omega), if_pos (by omega)], u, rfl, e2⟩
            | exact x_iret dX6_weight_29 rfl rfl (Nat.zero_le _) ⟨by rw [a_weight, if_neg (by omega), if_neg (by omega)], u, rfl, e2⟩
set_option maxHeartbeats 4000000 in
set_option maxRecDepth 100000 in
theorem k_rows (hs : Ext sh) (hr : Rok rf) (hR : RC S rf v) (hV : SV S) {n : Int} : Cv g mX6_rows [aR 0, aI n] (sh, rf, v) ((fun r h1 => r = some (aI (a_rows S n)) ∧ ∃ u, h1 = (sh, rf, u) ∧ ∀ d, d ≠ 16 → d ≠ 17 → u d = v d)) := by
  obtain ⟨⟨n0, n1, n2, n3, n4⟩, nb, nn, nse, nw⟩ := hR.now
  obtain ⟨x0, x1, x2, x3, x4, x5⟩ := hR.2.1
  have hv := hV.1.1
  have hS := nS_rng hv
  have hd := nd_rng hv
  have hq := pw16 hv.2.2.2.1 hv.2.2.2.2
  have hvb : VBan (v 5 0) (v 5 1) (v 5 2) := by rw [n0, n1, n2]; exact hv.1
  obtain ⟨hvB, hp1, hp2, hq1, hq2⟩ := hv
  have hmk := mk_rng (Gd S.1.1) (nS S.1.1)
  refine x_entry (ls := [some (aR 0), some (aI n)]) rfl rfl (Nat.le_of_ble_eq_true rfl) ?_
  refine x_il_n (q := 1) dX6_rows_0 rfl rfl ?_
  refine x_if_lt (t := 10) (q := 4) dX6_rows_1 rfl rfl (fun c_1 => ?_) (fun c_1 => ?_)
  · skip
    refine x_ic (q := 11) dX6_rows_10 rfl rfl ?_
    first
    | exact x_iret dX6_rows_11 rfl rfl (Nat.zero_le _) ⟨by rw [a_rows, if_pos (by omega)], v, rfl, fun _ _ _ => rfl⟩
    | exact x_iret dX6_rows_11 rfl rfl (Nat.zero_le _) ⟨by rw [a_rows, if_neg (by omega)], u, rfl, e2⟩
  · skip
    refine x_il_n (q := 5) dX6_rows_4 rfl rfl ?_
    refine x_bi (q := 7) dX6_rows_5 rfl rfl ?_
    refine x_ic_le (t := 12) (q := 10) dX6_rows_7 rfl rfl (fun c_7 => ?_) (fun c_7 => ?_)
    · skip
      refine x_al_n (q := 13) dX6_rows_12 rfl rfl ?_
      refine x_getR (q := 16) (o := some (15)) dX6_rows_13 rfl fX6_40 (hs _ _ rfl) rfl (hr _ _ _ rfl) ?_
      refine x_al_n (q := 17) dX6_rows_16 rfl rfl ?_
      refine x_getR (q := 20) (o := some (4)) dX6_rows_17 rfl fX6_26 (hs _ _ rfl) rfl (hr _ _ _ rfl) ?_
      refine x_getR (q := 23) (o := some (5)) dX6_rows_20 rfl fX6_59 (hs _ _ rfl) rfl (hr _ _ _ rfl) ?_
      refine x_il_n (q := 24) dX6_rows_23 rfl rfl ?_
      refine x_top (b := ((n.toNat : Nat) : Int)) (by omega) ?_
      refine x_V (q := 27) (ci := 4) dX6_rows_24 rfl kX6_rows_169 (c_countRows hs hr (c := 5) (n := n.toNat) (by omega) (hs _ _ rfl) (by decide) (by decide) hvb) rfl rfl (hs _ _ rfl) (by decide) rfl (Nat.le_of_ble_eq_true rfl) ⟨rfl, rfl⟩ ⟨Nat.zero_le _, Nat.zero_le _⟩ (fun r1 h1 hp => ?_)
      obtain ⟨rfl, u, rfl, e2⟩ := hp
      rw [n0, n1, n2]
      first
      | exact x_iret dX6_rows_27 rfl rfl (Nat.zero_le _) ⟨by rw [a_rows, if_pos (by omega)], v, rfl, fun _ _ _ => rfl⟩
      | exact x_iret dX6_rows_27 rfl rfl (Nat.zero_le _) ⟨by rw [a_rows, if_neg (by omega)], u, rfl, e2⟩
    · skip
      refine x_ic (q := 11) dX6_rows_10 rfl rfl ?_
      first
      | exact x_iret dX6_rows_11 rfl rfl (Nat.zero_le _) ⟨by rw [a_rows, if_pos (by omega)], v, rfl, fun _ _ _ => rfl⟩
      | exact x_iret dX6_rows_11 rfl rfl (Nat.zero_le _) ⟨by rw [a_rows, if_neg (by omega)], u, rfl, e2⟩
set_option maxHeartbeats 4000000 in
set_option maxRecDepth 100000 in
theorem k_readByStates (hs : Ext sh) (hr : Rok rf) (hR : RC S rf v) (hV : SV S) {i : Nat} (hi : i < S.1.2.1) : Cv g mX6_readByStates [aR 0, aI (i : Int)] (sh, rf, v) (retI (rbS S.1 i) (sh, rf, v)) := by
  obtain ⟨⟨n0, n1, n2, n3, n4⟩, nb, nn, nse, nw⟩ := hR.now
  obtain ⟨x0, x1, x2, x3, x4, x5⟩ := hR.2.1
  have hv := hV.1.1
  have hS := nS_rng hv
  have hd := nd_rng hv
  have hq := pw16 hv.2.2.2.1 hv.2.2.2.2
  have hvb : VBan (v 5 0) (v 5 1) (v 5 2) := by rw [n0, n1, n2]; exact hv.1
  obtain ⟨hvB, hp1, hp2, hq1, hq2⟩ := hv
  have hmk := mk_rng (Gd S.1.1) (nS S.1.1)
  have hn24 := hV.1.2.1
  refine x_entry (ls := [some (aR 0), some (aI (i : Int)), none, none, none, none]) rfl rfl (Nat.le_of_ble_eq_true rfl) ?_
  refine x_al_n (q := 1) dX6_readByStates_0 rfl rfl ?_
  refine x_getR (q := 4) (o := some (10)) dX6_readByStates_1 rfl fX6_33 (hs _ _ rfl) rfl (hr _ _ _ rfl) ?_
  refine x_getIe (q := 7) (z := Bg S.1.1) dX6_readByStates_4 rfl fX6_70 (hs _ _ rfl) rfl (x2) ?_
  refine x_is2 (q := 8) dX6_readByStates_7 rfl rfl ?_
  refine x_bi (q := 10) dX6_readByStates_8 rfl rfl ?_
  refine x_is3 (q := 11) dX6_readByStates_10 rfl rfl ?_
  refine x_ic (q := 12) dX6_readByStates_11 rfl rfl ?_
  refine x_is4 (q := 14) dX6_readByStates_12 rfl rfl ?_
  refine x_up (S := fun k => ∀ o : Option AV, Wv g mX6_readByStates 0 0 14 [some (aR 0), some (aI (i : Int)), some (aI (rdS (tT S.1.1) (eT S.1.1) (Bg S.1.1) S.1.2.2.1 k).1), some (aI (rdS (tT S.1.1) (eT S.1.1) (Bg S.1.1) S.1.2.2.1 k).2), some (aI (k : Int)), o] [] (sh, rf, v) (retI (rbS S.1 i) (sh, rf, v))) (i + 1) ?_ ?_ 0 (Nat.zero_le _) none
  · intro o
    refine x_il (q := 16) dX6_readByStates_14 rfl rfl ?_
    refine x_il_n (q := 17) dX6_readByStates_16 rfl rfl ?_
    refine x_ic_gt (t := 68) (q := 20) dX6_readByStates_17 rfl rfl (fun c_17 => ?_) (fun c_17 => ?_)
    · skip
      refine x_il_n (q := 69) dX6_readByStates_68 rfl rfl ?_
      exact x_iret dX6_readByStates_69 rfl rfl (Nat.zero_le _) (retI_mk (by rfl))
    · skip
      exact absurd (by omega) c_17
  · intro k hk ih o
    have hwk := hV.1.w16 (i := k) (by omega)
    refine x_il (q := 16) dX6_readByStates_14 rfl rfl ?_
    refine x_il_n (q := 17) dX6_readByStates_16 rfl rfl ?_
    refine x_ic_gt (t := 68) (q := 20) dX6_readByStates_17 rfl rfl (fun c_17 => ?_) (fun c_17 => ?_)
    · skip
      exact absurd c_17 (by omega)
    · skip
      refine x_al_n (q := 21) dX6_readByStates_20 rfl rfl ?_
      refine x_getR (q := 24) (o := some (4)) dX6_readByStates_21 rfl fX6_26 (hs _ _ rfl) rfl (hr _ _ _ rfl) ?_
      refine x_getR (q := 27) (o := some (6)) dX6_readByStates_24 rfl fX6_66 (hs _ _ rfl) rfl (hr _ _ _ rfl) ?_
      refine x_il (q := 29) dX6_readByStates_27 rfl rfl ?_
      refine x_VI (q := 32) (ci := 3) dX6_readByStates_29 rfl kX6_readByStates_173 (c_wordAt (line6 hs hr)) rfl rfl (hs _ _ rfl) (by decide) rfl (Nat.le_of_ble_eq_true rfl) ⟨rfl, rfl⟩ ⟨Nat.zero_le _, Nat.zero_le _⟩ ?_
      rw [if_pos (by omega), Int.toNat_natCast, (nw k (by omega)).1]
      refine x_is5 (q := 34) dX6_readByStates_32 rfl rfl ?_
      refine x_al_n (q := 35) dX6_readByStates_34 rfl rfl ?_
      refine x_getR (q := 38) (o := some (10)) dX6_readByStates_35 rfl fX6_33 (hs _ _ rfl) rfl (hr _ _ _ rfl) ?_
      refine x_il_n (q := 39) dX6_readByStates_38 rfl rfl ?_
      refine x_il (q := 41) dX6_readByStates_39 rfl rfl ?_
      refine x_VI (q := 44) (ci := 0) dX6_readByStates_41 rfl kX6_readByStates_146 (c_tagOf hs hr) rfl rfl (hs _ _ rfl) (by decide) rfl (Nat.le_of_ble_eq_true rfl) ⟨rfl, rfl⟩ ⟨Nat.zero_le _, Nat.zero_le _⟩ ?_
      rw [tagF_Ex x5]
      refine x_is3 (q := 45) dX6_readByStates_44 rfl rfl ?_
      refine x_il_n (q := 46) dX6_readByStates_45 rfl rfl ?_
      refine x_bi (q := 48) dX6_readByStates_46 rfl rfl ?_
      refine x_ic_eq (t := 62) (q := 51) dX6_readByStates_48 rfl rfl (fun c_48 => ?_) (fun c_48 => ?_)
      · skip
        have hE : (rdS (tT S.1.1) (eT S.1.1) (Bg S.1.1) S.1.2.2.1 (k + 1)).1 = (rdS (tT S.1.1) (eT S.1.1) (Bg S.1.1) S.1.2.2.1 k).1 := by show (if _ then _ else _) = _; rw [if_pos c_48]
        rw [hE] at ih
        refine x_ii4 (q := 65) dX6_readByStates_62 rfl rfl ⟨by omega, by omega⟩ ?_
        refine x_goto (t := 14) dX6_readByStates_65 rfl ?_
        exact ih _
      · skip
        have hE : (rdS (tT S.1.1) (eT S.1.1) (Bg S.1.1) S.1.2.2.1 (k + 1)).1 = Ex (eT S.1.1) (rdS (tT S.1.1) (eT S.1.1) (Bg S.1.1) S.1.2.2.1 k).1 (S.1.2.2.1 k) := by show (if _ then _ else _) = _; rw [if_neg c_48]
        rw [hE] at ih
        refine x_al_n (q := 52) dX6_readByStates_51 rfl rfl ?_
        refine x_getR (q := 55) (o := some (10)) dX6_readByStates_52 rfl fX6_33 (hs _ _ rfl) rfl (hr _ _ _ rfl) ?_
        refine x_il_n (q := 56) dX6_readByStates_55 rfl rfl ?_
        refine x_il (q := 58) dX6_readByStates_56 rfl rfl ?_
        refine x_VI (q := 61) (ci := 0) dX6_readByStates_58 rfl kX6_readByStates_117 (c_endOf hs hr) rfl rfl (hs _ _ rfl) (by decide) rfl (Nat.le_of_ble_eq_true rfl) ⟨rfl, rfl⟩ ⟨Nat.zero_le _, Nat.zero_le _⟩ ?_
        rw [endF_Ex x4]
        refine x_is2 (q := 62) dX6_readByStates_61 rfl rfl ?_
        refine x_ii4 (q := 65) dX6_readByStates_62 rfl rfl ⟨by omega, by omega⟩ ?_
        refine x_goto (t := 14) dX6_readByStates_65 rfl ?_
        exact ih _
theorem Wn_rng (c : Cfg) : Wn c = -9 ∨ (0 ≤ Wn c ∧ Wn c ≤ 3) := by
  unfold Wn wnC
  split
  · exact .inl rfl
  · rcases fi_rng (f := fun m => !dbt (tT c) (eT c) (muK (tT c) (eT c) (Gd c) (nS c) m) (nS c)) 4 0 with h | ⟨j, h1, h2, h3, h4⟩
    · exact .inl h
    · right; omega
set_option maxHeartbeats 4000000 in
set_option maxRecDepth 100000 in
theorem k_readByWindow (hs : Ext sh) (hr : Rok rf) (hR : RC S rf v) (hV : SV S) {i : Nat} (hi : i < S.1.2.1) : Cv g mX6_readByWindow [aR 0, aI (i : Int)] (sh, rf, v) (retI (rbW S.1 i) (sh, rf, v)) := by
  obtain ⟨⟨n0, n1, n2, n3, n4⟩, nb, nn, nse, nw⟩ := hR.now
  obtain ⟨x0, x1, x2, x3, x4, x5⟩ := hR.2.1
  have hv := hV.1.1
  have hS := nS_rng hv
  have hd := nd_rng hv
  have hq := pw16 hv.2.2.2.1 hv.2.2.2.2
  have hvb : VBan (v 5 0) (v 5 1) (v 5 2) := by rw [n0, n1, n2]; exact hv.1
  obtain ⟨hvB, hp1, hp2, hq1, hq2⟩ := hv
  have hmk := mk_rng (Gd S.1.1) (nS S.1.1)
  have hn24 := hV.1.2.1
  have hW := Wn_rng S.1.1
  refine x_entry (ls := [some (aR 0), some (aI (i : Int)), none, none]) rfl rfl (Nat.le_of_ble_eq_true rfl) ?_
  refine x_al_n (q := 1) dX6_readByWindow_0 rfl rfl ?_
  refine x_getR (q := 4) (o := some (10)) dX6_readByWindow_1 rfl fX6_33 (hs _ _ rfl) rfl (hr _ _ _ rfl) ?_
  refine x_getIe (q := 7) (z := Wn S.1.1) dX6_readByWindow_4 rfl fX6_207 (hs _ _ rfl) rfl (x3) ?_
  refine x_is2 (q := 8) dX6_readByWindow_7 rfl rfl ?_
  refine x_il_n (q := 9) dX6_readByWindow_8 rfl rfl ?_
  refine x_if_lt (t := 28) (q := 12) dX6_readByWindow_9 rfl rfl (fun c_9 => ?_) (fun c_9 => ?_)
  · skip
    have hG : rbW S.1 i = -9 := by unfold rbW; rw [if_pos (.inl c_9)]
    refine x_bi (q := 30) dX6_readByWindow_28 rfl rfl ?_
    exact x_iret dX6_readByWindow_30 rfl rfl (Nat.zero_le _) (retI_mk (by rw [hG]))
  · skip
    refine x_il_n (q := 13) dX6_readByWindow_12 rfl rfl ?_
    refine x_il_n (q := 14) dX6_readByWindow_13 rfl rfl ?_
    refine x_add (q := 15) dX6_readByWindow_14 rfl ⟨by omega, by omega⟩ ?_
    refine x_al_n (q := 16) dX6_readByWindow_15 rfl rfl ?_
    refine x_getR (q := 19) (o := some (4)) dX6_readByWindow_16 rfl fX6_26 (hs _ _ rfl) rfl (hr _ _ _ rfl) ?_
    refine x_getR (q := 22) (o := some (6)) dX6_readByWindow_19 rfl fX6_66 (hs _ _ rfl) rfl (hr _ _ _ rfl) ?_
    refine x_getIe (q := 25) (z := (S.1.2.1 : Int)) dX6_readByWindow_22 rfl fX6_109 (hs _ _ rfl) rfl (nn) ?_
    refine x_ic_lt (t := 31) (q := 28) dX6_readByWindow_25 rfl rfl (fun c_25 => ?_) (fun c_25 => ?_)
    · skip
      have hG : rbW S.1 i = if rwS S.1 i = -9 then -9 else Ex (tT S.1.1) (rwS S.1 i) (S.1.2.2.1 i) := by unfold rbW; rw [if_neg (by omega)]
      refine x_ic (q := 32) dX6_readByWindow_31 rfl rfl ?_
      refine x_is3 (q := 33) dX6_readByWindow_32 rfl rfl ?_
      refine x_up (S := fun s => ∀ k, s + k = nS S.1.1 → rwS S.1 i = fi (fun s => !decide (FW (tT S.1.1) (eT S.1.1) S.1.2.2.1 ((Wn S.1.1).toNat + 1) i (s : Int) = -9)) s k → Wv g mX6_readByWindow 0 0 33 [some (aR 0), some (aI (i : Int)), some (aI (Wn S.1.1)), some (aI (s : Int))] [] (sh, rf, v) (retI (rbW S.1 i) (sh, rf, v))) (nS S.1.1) ?_ ?_ 0 (Nat.zero_le _) (nS S.1.1) (by omega) rfl
      · intro k hk hrw
        obtain rfl : k = 0 := by omega
        refine x_il_n (q := 34) dX6_readByWindow_33 rfl rfl ?_
        refine x_al_n (q := 35) dX6_readByWindow_34 rfl rfl ?_
        refine x_getR (q := 38) (o := some (10)) dX6_readByWindow_35 rfl fX6_33 (hs _ _ rfl) rfl (hr _ _ _ rfl) ?_
        refine x_getIe (q := 41) (z := (nS S.1.1 : Int)) dX6_readByWindow_38 rfl fX6_99 (hs _ _ rfl) rfl (x0) ?_
        refine x_ic_ge (t := 97) (q := 44) dX6_readByWindow_41 rfl rfl (fun c_41 => ?_) (fun c_41 => ?_)
        · skip
          refine x_bi (q := 99) dX6_readByWindow_97 rfl rfl ?_
          exact x_iret dX6_readByWindow_99 rfl rfl (Nat.zero_le _) (retI_mk (by rw [hG, if_pos (show rwS S.1 i = -9 from hrw)]))
        · skip
          exact absurd (Int.le_refl _) c_41
      · intro s hsn ih k hk hrw
        obtain ⟨k, rfl⟩ : ∃ j, k = j + 1 := ⟨nS S.1.1 - s - 1, by omega⟩
        have hwi := nw i hi
        refine x_il_n (q := 34) dX6_readByWindow_33 rfl rfl ?_
        refine x_al_n (q := 35) dX6_readByWindow_34 rfl rfl ?_
        refine x_getR (q := 38) (o := some (10)) dX6_readByWindow_35 rfl fX6_33 (by first | exact hs _ _ rfl | exact line6 hs hr) rfl (hr _ _ _ rfl) ?_
        refine x_getIe (q := 41) (z := (nS S.1.1 : Int)) dX6_readByWindow_38 rfl fX6_99 (by first | exact hs _ _ rfl | exact line6 hs hr) rfl (x0) ?_
        refine x_ic_ge (t := 97) (q := 44) dX6_readByWindow_41 rfl rfl (fun c_41 => ?_) (fun c_41 => ?_)
        · skip
          exact absurd c_41 (by omega)
        · skip
          refine x_al_n (q := 45) dX6_readByWindow_44 rfl rfl ?_
          refine x_getR (q := 48) (o := some (10)) dX6_readByWindow_45 rfl fX6_33 (by first | exact hs _ _ rfl | exact line6 hs hr) rfl (hr _ _ _ rfl) ?_
          refine x_il_n (q := 49) dX6_readByWindow_48 rfl rfl ?_
          refine x_al_n (q := 50) dX6_readByWindow_49 rfl rfl ?_
          refine x_getR (q := 53) (o := some (4)) dX6_readByWindow_50 rfl fX6_26 (by first | exact hs _ _ rfl | exact line6 hs hr) rfl (hr _ _ _ rfl) ?_
          refine x_getR (q := 56) (o := some (6)) dX6_readByWindow_53 rfl fX6_66 (by first | exact hs _ _ rfl | exact line6 hs hr) rfl (hr _ _ _ rfl) ?_
          refine x_getR (q := 59) (o := some (7)) dX6_readByWindow_56 rfl fX6_216 (by first | exact hs _ _ rfl | exact line6 hs hr) rfl (hr _ _ _ rfl) ?_
          refine x_il_n (q := 60) dX6_readByWindow_59 rfl rfl ?_
          refine x_il_n (q := 61) dX6_readByWindow_60 rfl rfl ?_
          refine x_ic (q := 62) dX6_readByWindow_61 rfl rfl ?_
          refine x_add (q := 63) dX6_readByWindow_62 rfl ⟨by omega, by omega⟩ ?_
          refine x_top (b := (((Wn S.1.1).toNat + 1 : Nat) : Int)) (by omega) ?_
          refine x_VI (q := 66) (ci := 0) dX6_readByWindow_63 rfl kX6_readByWindow_219 (c_follow hs hr (c := 7) (a := i) (n := (Wn S.1.1).toNat + 1) (m := 24) (hs _ _ rfl) (by omega) (by decide)) rfl rfl (by first | exact hs _ _ rfl | exact line6 hs hr) (by decide) rfl (Nat.le_of_ble_eq_true rfl) ⟨rfl, rfl⟩ ⟨Nat.zero_le _, Nat.zero_le _⟩ ?_
          rw [folw_FW (f := S.1.2.2.1) x4 x5 _ _ _ (fun j h1 h2 => (nw j (by omega)).1)]
          refine x_bi (q := 68) dX6_readByWindow_66 rfl rfl ?_
          refine x_ic_eq (t := 91) (q := 71) dX6_readByWindow_68 rfl rfl (fun c_68 => ?_) (fun c_68 => ?_)
          · skip
            have ih := ih k (by omega) (by rw [hrw, fi_f (by simp [c_68])])
            refine x_ii3 (q := 94) dX6_readByWindow_91 rfl rfl ⟨by omega, by omega⟩ ?_
            refine x_goto (t := 33) dX6_readByWindow_94 rfl ?_
            exact ih
          · skip
            have hrs : rwS S.1 i = (s : Int) := by rw [hrw, fi_t (by simp [c_68])]
            refine x_al_n (q := 72) dX6_readByWindow_71 rfl rfl ?_
            refine x_getR (q := 75) (o := some (10)) dX6_readByWindow_72 rfl fX6_33 (by first | exact hs _ _ rfl | exact line6 hs hr) rfl (hr _ _ _ rfl) ?_
            refine x_il_n (q := 76) dX6_readByWindow_75 rfl rfl ?_
            refine x_al_n (q := 77) dX6_readByWindow_76 rfl rfl ?_
            refine x_getR (q := 80) (o := some (4)) dX6_readByWindow_77 rfl fX6_26 (by first | exact hs _ _ rfl | exact line6 hs hr) rfl (hr _ _ _ rfl) ?_
            refine x_getR (q := 83) (o := some (6)) dX6_readByWindow_80 rfl fX6_66 (by first | exact hs _ _ rfl | exact line6 hs hr) rfl (hr _ _ _ rfl) ?_
            refine x_il_n (q := 84) dX6_readByWindow_83 rfl rfl ?_
            refine x_VI (q := 87) (ci := 3) dX6_readByWindow_84 rfl kX6_readByWindow_173 (c_wordAt (line6 hs hr)) rfl rfl (by first | exact hs _ _ rfl | exact line6 hs hr) (by decide) rfl (Nat.le_of_ble_eq_true rfl) ⟨rfl, rfl⟩ ⟨Nat.zero_le _, Nat.zero_le _⟩ ?_
            rw [if_pos (by omega), Int.toNat_natCast, hwi.1]
            refine x_VI (q := 90) (ci := 0) dX6_readByWindow_87 rfl kX6_readByWindow_146 (c_tagOf hs hr) rfl rfl (by first | exact hs _ _ rfl | exact line6 hs hr) (by decide) rfl (Nat.le_of_ble_eq_true rfl) ⟨rfl, rfl⟩ ⟨Nat.zero_le _, Nat.zero_le _⟩ ?_
            rw [tagF_Ex x5]
            exact x_iret dX6_readByWindow_90 rfl rfl (Nat.zero_le _) (retI_mk (by rw [hG, hrs, if_neg (by omega)]))
    · skip
      have hG : rbW S.1 i = -9 := by unfold rbW; rw [if_pos (.inr (by omega))]
      refine x_bi (q := 30) dX6_readByWindow_28 rfl rfl ?_
      exact x_iret dX6_readByWindow_30 rfl rfl (Nat.zero_le _) (retI_mk (by rw [hG]))
set_option maxHeartbeats 4000000 in
set_option maxRecDepth 100000 in
theorem k_word (hs : Ext sh) (hr : Rok rf) (hR : RC S rf v) (hV : SV S) {i k : Int} : Cv g mX6_word [aR 0, aI i, aI k] (sh, rf, v) (retI (a_word S i k) (sh, rf, v)) := by
  obtain ⟨⟨n0, n1, n2, n3, n4⟩, nb, nn, nse, nw⟩ := hR.now
  obtain ⟨x0, x1, x2, x3, x4, x5⟩ := hR.2.1
  have hv := hV.1.1
  have hS := nS_rng hv
  have hd := nd_rng hv
  have hq := pw16 hv.2.2.2.1 hv.2.2.2.2
  have hvb : VBan (v 5 0) (v 5 1) (v 5 2) := by rw [n0, n1, n2]; exact hv.1
  obtain ⟨hvB, hp1, hp2, hq1, hq2⟩ := hv
  have hmk := mk_rng (Gd S.1.1) (nS S.1.1)
  have hn24 := hV.1.2.1
  refine x_entry (ls := [some (aR 0), some (aI i), some (aI k)]) rfl rfl (Nat.le_of_ble_eq_true rfl) ?_
  refine x_il_n (q := 1) dX6_word_0 rfl rfl ?_
  refine x_if_lt (t := 27) (q := 4) dX6_word_1 rfl rfl (fun c_1 => ?_) (fun c_1 => ?_)
  · skip
    refine x_ic (q := 28) dX6_word_27 rfl rfl ?_
    exact x_iret dX6_word_28 rfl rfl (Nat.zero_le _) (retI_mk (by rw [a_word, if_pos (by omega)]))
  · skip
    refine x_il_n (q := 5) dX6_word_4 rfl rfl ?_
    refine x_al_n (q := 6) dX6_word_5 rfl rfl ?_
    refine x_getR (q := 9) (o := some (4)) dX6_word_6 rfl fX6_26 (hs _ _ rfl) rfl (hr _ _ _ rfl) ?_
    refine x_getR (q := 12) (o := some (6)) dX6_word_9 rfl fX6_66 (hs _ _ rfl) rfl (hr _ _ _ rfl) ?_
    refine x_getIe (q := 15) (z := (S.1.2.1 : Int)) dX6_word_12 rfl fX6_109 (hs _ _ rfl) rfl (nn) ?_
    refine x_ic_ge (t := 27) (q := 18) dX6_word_15 rfl rfl (fun c_15 => ?_) (fun c_15 => ?_)
    · skip
      refine x_ic (q := 28) dX6_word_27 rfl rfl ?_
      exact x_iret dX6_word_28 rfl rfl (Nat.zero_le _) (retI_mk (by rw [a_word, if_pos (by omega)]))
    · skip
      refine x_il_n (q := 19) dX6_word_18 rfl rfl ?_
      refine x_if_lt (t := 27) (q := 22) dX6_word_19 rfl rfl (fun c_19 => ?_) (fun c_19 => ?_)
      · skip
        refine x_ic (q := 28) dX6_word_27 rfl rfl ?_
        exact x_iret dX6_word_28 rfl rfl (Nat.zero_le _) (retI_mk (by rw [a_word, if_pos (by omega)]))
      · skip
        refine x_il_n (q := 23) dX6_word_22 rfl rfl ?_
        refine x_ic (q := 24) dX6_word_23 rfl rfl ?_
        refine x_ic_le (t := 29) (q := 27) dX6_word_24 rfl rfl (fun c_24 => ?_) (fun c_24 => ?_)
        · skip
          refine x_il_n (q := 30) dX6_word_29 rfl rfl ?_
          have hA : a_word S i k = if k = 0 then S.1.2.2.1 i.toNat else if k = 1 then S.1.2.2.2.2.1 i.toNat else if k = 2 then rbS S.1 i.toNat else rbW S.1 i.toNat := by unfold a_word; rw [if_neg (by omega)]
          obtain ⟨j, rfl⟩ := Int.eq_ofNat_of_zero_le (show 0 ≤ i by omega)
          have hj : j < S.1.2.1 := by omega
          rw [Int.toNat_natCast] at hA
          rcases (show k = 0 ∨ k = 1 ∨ k = 2 ∨ k = 3 by omega) with rfl | rfl | rfl | rfl
          · refine x_tabI (t := 56) (off := 26) dX6_word_30 (by decide) (by decide) rfl rfl ?_
            refine x_al_n (q := 57) dX6_word_56 rfl rfl ?_
            refine x_getR (q := 60) (o := some (4)) dX6_word_57 rfl fX6_26 (hs _ _ rfl) rfl (hr _ _ _ rfl) ?_
            refine x_getR (q := 63) (o := some (6)) dX6_word_60 rfl fX6_66 (hs _ _ rfl) rfl (hr _ _ _ rfl) ?_
            refine x_il_n (q := 64) dX6_word_63 rfl rfl ?_
            refine x_VI (q := 67) (ci := 3) dX6_word_64 rfl kX6_word_173 (c_wordAt (line6 hs hr)) rfl rfl (hs _ _ rfl) (by decide) rfl (Nat.le_of_ble_eq_true rfl) ⟨rfl, rfl⟩ ⟨Nat.zero_le _, Nat.zero_le _⟩ ?_
            rw [if_pos (by omega), Int.toNat_natCast, (nw j hj).1]
            exact x_iret dX6_word_67 rfl rfl (Nat.zero_le _) (retI_mk (by rw [hA]; rfl))
          · refine x_tabI (t := 68) (off := 38) dX6_word_30 (by decide) (by decide) rfl rfl ?_
            refine x_al_n (q := 69) dX6_word_68 rfl rfl ?_
            refine x_getR (q := 72) (o := some (4)) dX6_word_69 rfl fX6_26 (hs _ _ rfl) rfl (hr _ _ _ rfl) ?_
            refine x_getR (q := 75) (o := some (6)) dX6_word_72 rfl fX6_66 (hs _ _ rfl) rfl (hr _ _ _ rfl) ?_
            refine x_il_n (q := 76) dX6_word_75 rfl rfl ?_
            refine x_VI (q := 79) (ci := 3) dX6_word_76 rfl kX6_word_176 (c_tagAt (line6 hs hr)) rfl rfl (hs _ _ rfl) (by decide) rfl (Nat.le_of_ble_eq_true rfl) ⟨rfl, rfl⟩ ⟨Nat.zero_le _, Nat.zero_le _⟩ ?_
            rw [if_pos (by omega), Int.toNat_natCast, (nw j hj).2.2]
            exact x_iret dX6_word_79 rfl rfl (Nat.zero_le _) (retI_mk (by rw [hA]; rfl))
          · refine x_tabI (t := 80) (off := 50) dX6_word_30 (by decide) (by decide) rfl rfl ?_
            refine x_al_n (q := 81) dX6_word_80 rfl rfl ?_
            refine x_il_n (q := 82) dX6_word_81 rfl rfl ?_
            refine x_VI (q := 85) (ci := 6) dX6_word_82 rfl kX6_word_179 (k_readByStates hs hr hR hV hj) rfl rfl (hs _ _ rfl) (by decide) rfl (Nat.le_of_ble_eq_true rfl) ⟨rfl, rfl⟩ ⟨Nat.zero_le _, Nat.zero_le _⟩ ?_
            exact x_iret dX6_word_85 rfl rfl (Nat.zero_le _) (retI_mk (by rw [hA]; rfl))
          · refine x_tabO (t := 86) dX6_word_30 (by decide) rfl ?_
            refine x_al_n (q := 87) dX6_word_86 rfl rfl ?_
            refine x_il_n (q := 88) dX6_word_87 rfl rfl ?_
            refine x_VI (q := 91) (ci := 6) dX6_word_88 rfl kX6_word_182 (k_readByWindow hs hr hR hV hj) rfl rfl (hs _ _ rfl) (by decide) rfl (Nat.le_of_ble_eq_true rfl) ⟨rfl, rfl⟩ ⟨Nat.zero_le _, Nat.zero_le _⟩ ?_
            exact x_iret dX6_word_91 rfl rfl (Nat.zero_le _) (retI_mk (by rw [hA]; rfl))
        · skip
          refine x_ic (q := 28) dX6_word_27 rfl rfl ?_
          exact x_iret dX6_word_28 rfl rfl (Nat.zero_le _) (retI_mk (by rw [a_word, if_pos (by omega)]))
set_option maxHeartbeats 4000000 in
set_option maxRecDepth 100000 in
theorem k_wrong (hs : Ext sh) (hr : Rok rf) (hR : RC S rf v) (hV : SV S) {k : Int} : Cv g mX6_wrong [aR 0, aI k] (sh, rf, v) (retI (a_wrong S k) (sh, rf, v)) := by
  obtain ⟨⟨n0, n1, n2, n3, n4⟩, nb, nn, nse, nw⟩ := hR.now
  obtain ⟨x0, x1, x2, x3, x4, x5⟩ := hR.2.1
  have hv := hV.1.1
  have hS := nS_rng hv
  have hd := nd_rng hv
  have hq := pw16 hv.2.2.2.1 hv.2.2.2.2
  have hvb : VBan (v 5 0) (v 5 1) (v 5 2) := by rw [n0, n1, n2]; exact hv.1
  obtain ⟨hvB, hp1, hp2, hq1, hq2⟩ := hv
  have hmk := mk_rng (Gd S.1.1) (nS S.1.1)
  have hn24 := hV.1.2.1
  refine x_entry (ls := [some (aR 0), some (aI k), none, none, none]) rfl rfl (Nat.le_of_ble_eq_true rfl) ?_
  refine x_il_n (q := 1) dX6_wrong_0 rfl rfl ?_
  refine x_if_lt (t := 9) (q := 4) dX6_wrong_1 rfl rfl (fun c_1 => ?_) (fun c_1 => ?_)
  · skip
    refine x_ic (q := 10) dX6_wrong_9 rfl rfl ?_
    exact x_iret dX6_wrong_10 rfl rfl (Nat.zero_le _) (retI_mk (by rw [a_wrong, if_pos (by omega)]))
  · skip
    refine x_il_n (q := 5) dX6_wrong_4 rfl rfl ?_
    refine x_ic (q := 6) dX6_wrong_5 rfl rfl ?_
    refine x_ic_le (t := 11) (q := 9) dX6_wrong_6 rfl rfl (fun c_6 => ?_) (fun c_6 => ?_)
    · skip
      refine x_ic (q := 12) dX6_wrong_11 rfl rfl ?_
      refine x_is2 (q := 13) dX6_wrong_12 rfl rfl ?_
      refine x_ic (q := 14) dX6_wrong_13 rfl rfl ?_
      refine x_is3 (q := 15) dX6_wrong_14 rfl rfl ?_
      have hA : a_wrong S k = cnt (fun i => !decide ((if k = 0 then rbS S.1 i else rbW S.1 i) = S.1.2.2.2.2.1 i)) S.1.2.1 := by unfold a_wrong; rw [if_neg (by omega)]
      rw [hA]
      refine x_up (S := fun i => ∀ o : Option AV, Wv g mX6_wrong 0 0 15 [some (aR 0), some (aI k), some (aI (cnt (fun i => !decide ((if k = 0 then rbS S.1 i else rbW S.1 i) = S.1.2.2.2.2.1 i)) i)), some (aI (i : Int)), o] [] (sh, rf, v) (retI (cnt (fun i => !decide ((if k = 0 then rbS S.1 i else rbW S.1 i) = S.1.2.2.2.2.1 i)) S.1.2.1) (sh, rf, v))) S.1.2.1 ?_ ?_ 0 (Nat.zero_le _) none
      · intro o
        refine x_il_n (q := 16) dX6_wrong_15 rfl rfl ?_
        refine x_al_n (q := 17) dX6_wrong_16 rfl rfl ?_
        refine x_getR (q := 20) (o := some (4)) dX6_wrong_17 rfl fX6_26 (hs _ _ rfl) rfl (hr _ _ _ rfl) ?_
        refine x_getR (q := 23) (o := some (6)) dX6_wrong_20 rfl fX6_66 (hs _ _ rfl) rfl (hr _ _ _ rfl) ?_
        refine x_getIe (q := 26) (z := (S.1.2.1 : Int)) dX6_wrong_23 rfl fX6_109 (hs _ _ rfl) rfl (nn) ?_
        refine x_ic_ge (t := 73) (q := 29) dX6_wrong_26 rfl rfl (fun c_26 => ?_) (fun c_26 => ?_)
        · skip
          refine x_il_n (q := 74) dX6_wrong_73 rfl rfl ?_
          exact x_iret dX6_wrong_74 rfl rfl (Nat.zero_le _) (retI_mk (by rfl))
        · skip
          exact absurd (Int.le_refl _) c_26
      · intro i hi ih o
        have hcb := cnt_rng (fun i => !decide ((if k = 0 then rbS S.1 i else rbW S.1 i) = S.1.2.2.2.2.1 i)) i
        refine x_il_n (q := 16) dX6_wrong_15 rfl rfl ?_
        refine x_al_n (q := 17) dX6_wrong_16 rfl rfl ?_
        refine x_getR (q := 20) (o := some (4)) dX6_wrong_17 rfl fX6_26 (by first | exact hs _ _ rfl | exact line6 hs hr) rfl (hr _ _ _ rfl) ?_
        refine x_getR (q := 23) (o := some (6)) dX6_wrong_20 rfl fX6_66 (by first | exact hs _ _ rfl | exact line6 hs hr) rfl (hr _ _ _ rfl) ?_
        refine x_getIe (q := 26) (z := (S.1.2.1 : Int)) dX6_wrong_23 rfl fX6_109 (by first | exact hs _ _ rfl | exact line6 hs hr) rfl (nn) ?_
        refine x_ic_ge (t := 73) (q := 29) dX6_wrong_26 rfl rfl (fun c_26 => ?_) (fun c_26 => ?_)
        · skip
          exact absurd c_26 (by omega)
        · skip
          refine x_il_n (q := 30) dX6_wrong_29 rfl rfl ?_
          refine x_if_ne (t := 41) (q := 33) dX6_wrong_30 rfl rfl (fun c_30 => ?_) (fun c_30 => ?_)
          · skip
            refine x_al_n (q := 42) dX6_wrong_41 rfl rfl ?_
            refine x_il_n (q := 43) dX6_wrong_42 rfl rfl ?_
            refine x_VI (q := 46) (ci := 6) dX6_wrong_43 rfl kX6_wrong_182 (k_readByWindow hs hr hR hV hi) rfl rfl (by first | exact hs _ _ rfl | exact line6 hs hr) (by decide) rfl (Nat.le_of_ble_eq_true rfl) ⟨rfl, rfl⟩ ⟨Nat.zero_le _, Nat.zero_le _⟩ ?_
            refine x_is4 (q := 48) dX6_wrong_46 rfl rfl ?_
            refine x_il (q := 50) dX6_wrong_48 rfl rfl ?_
            refine x_al_n (q := 51) dX6_wrong_50 rfl rfl ?_
            refine x_getR (q := 54) (o := some (4)) dX6_wrong_51 rfl fX6_26 (by first | exact hs _ _ rfl | exact line6 hs hr) rfl (hr _ _ _ rfl) ?_
            refine x_getR (q := 57) (o := some (6)) dX6_wrong_54 rfl fX6_66 (by first | exact hs _ _ rfl | exact line6 hs hr) rfl (hr _ _ _ rfl) ?_
            refine x_il_n (q := 58) dX6_wrong_57 rfl rfl ?_
            refine x_VI (q := 61) (ci := 3) dX6_wrong_58 rfl kX6_wrong_176 (c_tagAt (line6 hs hr)) rfl rfl (by first | exact hs _ _ rfl | exact line6 hs hr) (by decide) rfl (Nat.le_of_ble_eq_true rfl) ⟨rfl, rfl⟩ ⟨Nat.zero_le _, Nat.zero_le _⟩ ?_
            rw [if_pos (by omega), Int.toNat_natCast, (nw i hi).2.2]
            refine x_ic_eq (t := 67) (q := 64) dX6_wrong_61 rfl rfl (fun c_61 => ?_) (fun c_61 => ?_)
            · skip
              rw [cnt_f (by simp [c_30, c_61])] at ih
              refine x_ii3 (q := 70) dX6_wrong_67 rfl rfl ⟨by omega, by omega⟩ ?_
              refine x_goto (t := 15) dX6_wrong_70 rfl ?_
              exact ih _
            · skip
              rw [cnt_t (by simp [c_30, c_61])] at ih
              refine x_ii2 (q := 67) dX6_wrong_64 rfl rfl ⟨by omega, by omega⟩ ?_
              refine x_ii3 (q := 70) dX6_wrong_67 rfl rfl ⟨by omega, by omega⟩ ?_
              refine x_goto (t := 15) dX6_wrong_70 rfl ?_
              exact ih _
          · skip
            refine x_al_n (q := 34) dX6_wrong_33 rfl rfl ?_
            refine x_il_n (q := 35) dX6_wrong_34 rfl rfl ?_
            refine x_VI (q := 38) (ci := 6) dX6_wrong_35 rfl kX6_wrong_179 (k_readByStates hs hr hR hV hi) rfl rfl (by first | exact hs _ _ rfl | exact line6 hs hr) (by decide) rfl (Nat.le_of_ble_eq_true rfl) ⟨rfl, rfl⟩ ⟨Nat.zero_le _, Nat.zero_le _⟩ ?_
            refine x_goto (t := 46) dX6_wrong_38 rfl ?_
            refine x_is4 (q := 48) dX6_wrong_46 rfl rfl ?_
            refine x_il (q := 50) dX6_wrong_48 rfl rfl ?_
            refine x_al_n (q := 51) dX6_wrong_50 rfl rfl ?_
            refine x_getR (q := 54) (o := some (4)) dX6_wrong_51 rfl fX6_26 (by first | exact hs _ _ rfl | exact line6 hs hr) rfl (hr _ _ _ rfl) ?_
            refine x_getR (q := 57) (o := some (6)) dX6_wrong_54 rfl fX6_66 (by first | exact hs _ _ rfl | exact line6 hs hr) rfl (hr _ _ _ rfl) ?_
            refine x_il_n (q := 58) dX6_wrong_57 rfl rfl ?_
            refine x_VI (q := 61) (ci := 3) dX6_wrong_58 rfl kX6_wrong_176 (c_tagAt (line6 hs hr)) rfl rfl (by first | exact hs _ _ rfl | exact line6 hs hr) (by decide) rfl (Nat.le_of_ble_eq_true rfl) ⟨rfl, rfl⟩ ⟨Nat.zero_le _, Nat.zero_le _⟩ ?_
            rw [if_pos (by omega), Int.toNat_natCast, (nw i hi).2.2]
            refine x_ic_eq (t := 67) (q := 64) dX6_wrong_61 rfl rfl (fun c_61 => ?_) (fun c_61 => ?_)
            · skip
              rw [cnt_f (by simp [c_30, c_61])] at ih
              refine x_ii3 (q := 70) dX6_wrong_67 rfl rfl ⟨by omega, by omega⟩ ?_
              refine x_goto (t := 15) dX6_wrong_70 rfl ?_
              exact ih _
            · skip
              rw [cnt_t (by simp [c_30, c_61])] at ih
              refine x_ii2 (q := 67) dX6_wrong_64 rfl rfl ⟨by omega, by omega⟩ ?_
              refine x_ii3 (q := 70) dX6_wrong_67 rfl rfl ⟨by omega, by omega⟩ ?_
              refine x_goto (t := 15) dX6_wrong_70 rfl ?_
              exact ih _
    · skip
      refine x_ic (q := 10) dX6_wrong_9 rfl rfl ?_
      exact x_iret dX6_wrong_10 rfl rfl (Nat.zero_le _) (retI_mk (by rw [a_wrong, if_pos (by omega)]))
end CLA

/-! ===== the class: tells, sends, flips ===== -/
theorem HV_send {H : Hd} (hV : HV H) (hg : ¬ mk (Gd H.1) (nS H.1) = 0) (h24 : H.2.1 < 24) {t : Int} (h0 : 0 ≤ t) (h1 : t < nd H.1) : ∃ (s w m : Nat), s < nS H.1 ∧ Gd H.1 s = true ∧ H.2.2.2.2.2 = (s : Int) ∧ w < 16 ∧ (w : Int) < 2 ^ H.1.2.2.2.2.toNat ∧ wwT (tT H.1) H.2.2.2.2.2.toNat t = (w : Int) ∧ m < nS H.1 ∧ Gd H.1 m = true ∧ eT H.1 s w = (m : Int) ∧ Ex (eT H.1) H.2.2.2.2.2 (w : Int) = (m : Int) := by
  rcases hV.2.2.2 with h | ⟨-, s, hs, hgs, hse⟩
  · exact absurd h.1 hg
  · have hn := nS_rng hV.1
    obtain ⟨w, w1, w2, w3⟩ := ww_ok hV.1 hs hgs h0 h1
    obtain ⟨-, -, a3, -, -, m, m1, m2, m3⟩ := tT_good hV.1 (s := s) (w := w) (by rw [w3]; omega)
    refine ⟨s, w, m, hs, hgs, hse, w1, a3, by rw [hse, Int.toNat_natCast]; exact w2, m1, m2, m3, ?_⟩
    rw [hse, Ex_n (by omega) w1]
    exact m3
theorem HV_sends {H : Hd} (hV : HV H) (hg : ¬ mk (Gd H.1) (nS H.1) = 0) (h24 : H.2.1 < 24) {t : Int} (h0 : 0 ≤ t) (h1 : t < nd H.1) : HV (H.1, H.2.1 + 1, upx H.2.2.1 H.2.1 (wwT (tT H.1) H.2.2.2.2.2.toNat t), upx H.2.2.2.1 H.2.1 (wwT (tT H.1) H.2.2.2.2.2.toNat t), upx H.2.2.2.2.1 H.2.1 t, Ex (eT H.1) H.2.2.2.2.2 (wwT (tT H.1) H.2.2.2.2.2.toNat t)) := by
  obtain ⟨s, w, m, hs, hgs, hse, w1, w2, w3, m1, m2, m3, m4⟩ := HV_send hV hg h24 h0 h1
  rw [w3, m4]
  refine ⟨hV.1, by show H.2.1 + 1 ≤ 24; omega, fun i hi => ?_, .inr ⟨hg, m, m1, m2, rfl⟩⟩
  have hi2 : i < H.2.1 + 1 := hi
  show 0 ≤ upx H.2.2.1 H.2.1 (w : Int) i ∧ upx H.2.2.1 H.2.1 (w : Int) i < 2 ^ H.1.2.2.2.2.toNat ∧ 0 ≤ upx H.2.2.2.1 H.2.1 (w : Int) i ∧ upx H.2.2.2.1 H.2.1 (w : Int) i < 2 ^ H.1.2.2.2.2.toNat
  unfold upx
  by_cases he : i = H.2.1
  · rw [if_pos he, if_pos he]; omega
  · rw [if_neg he, if_neg he]; exact hV.2.2.1 i (by omega)
theorem flip_rng {S : St} (hV : HV S.1) {b : Int} (h0 : 0 ≤ b) (h1 : b < (S.1.2.1 : Int) * S.1.1.2.2.2.2) : (b / S.1.1.2.2.2.2).toNat < S.1.2.1 ∧ 0 ≤ b / S.1.1.2.2.2.2 ∧ b / S.1.1.2.2.2.2 < S.1.2.1 ∧ 0 ≤ b % S.1.1.2.2.2.2 ∧ b % S.1.1.2.2.2.2 < S.1.1.2.2.2.2 := by
  have hq1 := hV.1.2.2.2.1
  have hq2 := hV.1.2.2.2.2
  have e1 : 0 ≤ b / S.1.1.2.2.2.2 := Int.ediv_nonneg h0 (by omega)
  have e2 : b / S.1.1.2.2.2.2 < S.1.2.1 := Int.ediv_lt_of_lt_mul (by omega) h1
  exact ⟨by omega, e1, e2, Int.emod_nonneg _ (by omega), Int.emod_lt_of_pos _ (by omega)⟩
theorem fnw_rng {S : St} (hV : HV S.1) {b : Int} (h0 : 0 ≤ b) (h1 : b < (S.1.2.1 : Int) * S.1.1.2.2.2.2) : 0 ≤ fnw S b ∧ fnw S b < 2 ^ S.1.1.2.2.2.2.toNat := by
  obtain ⟨f1, f2, f3, f4, f5⟩ := flip_rng hV h0 h1
  have hw := hV.2.2.1 _ f1
  have hq1 := hV.1.2.2.2.1
  have hpl : fpl S b < S.1.1.2.2.2.2.toNat := by unfold fpl; omega
  have e1 : ((2 ^ S.1.1.2.2.2.2.toNat : Nat) : Int) = 2 ^ S.1.1.2.2.2.2.toNat := by simp
  have e2 : ((2 ^ fpl S b : Nat) : Int) = 2 ^ fpl S b := by simp
  have e3 : 2 ^ fpl S b < 2 ^ S.1.1.2.2.2.2.toNat := Nat.pow_lt_pow_right (by decide) hpl
  have := Nat.xor_lt_two_pow (n := S.1.1.2.2.2.2.toNat) (x := (S.1.2.2.1 (b / S.1.1.2.2.2.2).toNat).toNat) (y := ((2 : Int) ^ fpl S b).toNat) (by omega) (by omega)
  unfold fnw
  omega
theorem HV_flip {S : St} (hV : HV S.1) {b : Int} (h0 : 0 ≤ b) (h1 : b < (S.1.2.1 : Int) * S.1.1.2.2.2.2) : HV (S.1.1, S.1.2.1, upx S.1.2.2.1 (b / S.1.1.2.2.2.2).toNat (fnw S b), S.1.2.2.2) := by
  refine ⟨hV.1, hV.2.1, fun i hi => ?_, hV.2.2.2⟩
  have hw := hV.2.2.1 i hi
  have hf := fnw_rng hV h0 h1
  show 0 ≤ upx S.1.2.2.1 (b / S.1.1.2.2.2.2).toNat (fnw S b) i ∧ upx S.1.2.2.1 (b / S.1.1.2.2.2.2).toNat (fnw S b) i < 2 ^ S.1.1.2.2.2.2.toNat ∧ _
  unfold upx
  by_cases he : i = (b / S.1.1.2.2.2.2).toNat
  · rw [if_pos he]; exact ⟨hf.1, hf.2, hw.2.2⟩
  · rw [if_neg he]; exact hw
theorem SV_push {S : St} (hV : SV S) : SV (S.1, pushP S.2.1 S.1, S.2.2) := by
  obtain ⟨v1, v2, v3, v4⟩ := hV
  refine ⟨v1, pushP_len _ _ v2, fun h hh => ?_, v4⟩
  rcases pushP_mem hh with q | q
  · exact v3 h q
  · rw [q]; exact v1
section CLD
variable {g : GL} {sh : List (Nat × Nat)} {rf : Nat → Nat → Option Nat} {v : Nat → Nat → Int} {S : St}

set_option maxHeartbeats 4000000 in
set_option maxRecDepth 100000 in
theorem k_sends (hs : Ext sh) (hr : Rok rf) (hR : RC S rf v) (hV : SV S) {t : Int} : Cv g mX6_sends [aR 0, aI t] (sh, rf, v) (cP (o_sends S t) sh rf v) := by
  obtain ⟨⟨n0, n1, n2, n3, n4⟩, nb, nn, nse, nw⟩ := hR.now
  obtain ⟨x0, x1, x2, x3, x4, x5⟩ := hR.2.1
  have hv := hV.1.1
  have hS := nS_rng hv
  have hd := nd_rng hv
  have hq := pw16 hv.2.2.2.1 hv.2.2.2.2
  have hvb : VBan (v 5 0) (v 5 1) (v 5 2) := by rw [n0, n1, n2]; exact hv.1
  obtain ⟨hvB, hp1, hp2, hq1, hq2⟩ := hv
  have hmk := mk_rng (Gd S.1.1) (nS S.1.1)
  have h24 := hV.1.2.1
  refine x_entry (ls := [some (aR 0), some (aI t), none, none]) rfl rfl (Nat.le_of_ble_eq_true rfl) ?_
  refine x_il_n (q := 1) dX6_sends_0 rfl rfl ?_
  refine x_if_lt (t := 18) (q := 4) dX6_sends_1 rfl rfl (fun c_1 => ?_) (fun c_1 => ?_)
  · skip
    have hO : o_sends S t = (-1, S) := by unfold o_sends; rw [if_pos (by omega)]
    refine x_ic (q := 19) dX6_sends_18 rfl rfl ?_
    exact x_iret dX6_sends_19 rfl rfl (Nat.zero_le _) (cP_same hr hR hV (by rw [hO]) (by rw [hO]))
  · skip
    refine x_il_n (q := 5) dX6_sends_4 rfl rfl ?_
    refine x_al_n (q := 6) dX6_sends_5 rfl rfl ?_
    refine x_getR (q := 9) (o := some (4)) dX6_sends_6 rfl fX6_26 (by first | exact hs _ _ rfl | exact line6 hs hr) rfl (by first | exact hr2 _ _ _ rfl | exact hr _ _ _ rfl) ?_
    refine x_getR (q := 12) (o := some (5)) dX6_sends_9 rfl fX6_59 (by first | exact hs _ _ rfl | exact line6 hs hr) rfl (by first | exact hr2 _ _ _ rfl | exact hr _ _ _ rfl) ?_
    refine x_VI (q := 15) (ci := 1) dX6_sends_12 rfl kX6_sends_102 (c_tagCount (c := 5) (hs _ _ rfl) (by rw [n3]; omega) (by rw [n3]; omega)) rfl rfl (by first | exact hs _ _ rfl | exact line6 hs hr) (by decide) rfl (Nat.le_of_ble_eq_true rfl) ⟨rfl, rfl⟩ ⟨Nat.zero_le _, Nat.zero_le _⟩ ?_
    rw [show (2 : Int) ^ (v 5 3).toNat = nd S.1.1 by rw [n3]; rfl]
    refine x_ic_lt (t := 20) (q := 18) dX6_sends_15 rfl rfl (fun c_15 => ?_) (fun c_15 => ?_)
    · skip
      refine x_al_n (q := 21) dX6_sends_20 rfl rfl ?_
      refine x_getR (q := 24) (o := some (10)) dX6_sends_21 rfl fX6_33 (by first | exact hs _ _ rfl | exact line6 hs hr) rfl (by first | exact hr2 _ _ _ rfl | exact hr _ _ _ rfl) ?_
      refine x_getIe (q := 27) (z := mk (Gd S.1.1) (nS S.1.1)) dX6_sends_24 rfl fX6_106 (by first | exact hs _ _ rfl | exact line6 hs hr) rfl (x1) ?_
      refine x_if_ne (t := 33) (q := 30) dX6_sends_27 rfl rfl (fun c_27 => ?_) (fun c_27 => ?_)
      · skip
        refine x_al_n (q := 34) dX6_sends_33 rfl rfl ?_
        refine x_getR (q := 37) (o := some (4)) dX6_sends_34 rfl fX6_26 (by first | exact hs _ _ rfl | exact line6 hs hr) rfl (by first | exact hr2 _ _ _ rfl | exact hr _ _ _ rfl) ?_
        refine x_getR (q := 40) (o := some (6)) dX6_sends_37 rfl fX6_66 (by first | exact hs _ _ rfl | exact line6 hs hr) rfl (by first | exact hr2 _ _ _ rfl | exact hr _ _ _ rfl) ?_
        refine x_as2 (q := 41) dX6_sends_40 rfl rfl ?_
        refine x_al_n (q := 42) dX6_sends_41 rfl rfl ?_
        refine x_getIe (q := 45) (z := (S.1.2.1 : Int)) dX6_sends_42 rfl fX6_109 (by first | exact hs _ _ rfl | exact line6 hs hr) rfl (nn) ?_
        refine x_bi (q := 47) dX6_sends_45 rfl rfl ?_
        refine x_ic_lt (t := 53) (q := 50) dX6_sends_47 rfl rfl (fun c_47 => ?_) (fun c_47 => ?_)
        · skip
          refine x_al_n (q := 54) dX6_sends_53 rfl rfl ?_
          refine x_V (q := 57) (ci := 6) dX6_sends_54 rfl kX6_sends_90 (k_remember hs hr hR hV) rfl rfl (by first | exact hs _ _ rfl | exact line6 hs hr) (by decide) rfl (Nat.le_of_ble_eq_true rfl) ⟨rfl, rfl⟩ ⟨Nat.zero_le _, Nat.zero_le _⟩ (fun r1 h1 hp => ?_)
          obtain ⟨rfl, rf2, u, rfl, hr2, hR2, m1, m2⟩ := hp
          have hV2 := SV_push hV
          have hN := hR2.now
          dsimp only at hN
          obtain ⟨-, mb, mn, mse, mw⟩ := hN
          obtain ⟨y0, y1, y2, y3, y4, y5⟩ := hR2.2.1
          obtain ⟨s, w, m, hs1, hgs, hse, w1, w2, w3, q1, q2, q3, q4⟩ := HV_send hV.1 c_27 (by omega) (show 0 ≤ t by omega) (by omega)
          refine x_al_n (q := 58) dX6_sends_57 rfl rfl ?_
          refine x_getR (q := 61) (o := some (10)) dX6_sends_58 rfl fX6_33 (by first | exact hs _ _ rfl | exact line6 hs hr) rfl (by first | exact hr2 _ _ _ rfl | exact hr _ _ _ rfl) ?_
          refine x_al_n (q := 62) dX6_sends_61 rfl rfl ?_
          refine x_getIe (q := 65) (z := S.1.2.2.2.2.2) dX6_sends_62 rfl fX6_110 (by first | exact hs _ _ rfl | exact line6 hs hr) rfl (mse) ?_
          refine x_il_n (q := 66) dX6_sends_65 rfl rfl ?_
          refine x_VI (q := 69) (ci := 0) dX6_sends_66 rfl kX6_sends_113 (c_wordWith hs hr2) rfl rfl (by first | exact hs _ _ rfl | exact line6 hs hr) (by decide) rfl (Nat.le_of_ble_eq_true rfl) ⟨rfl, rfl⟩ ⟨Nat.zero_le _, Nat.zero_le _⟩ ?_
          rw [hse, ww_T y5 (by omega)]
          rw [hse, Int.toNat_natCast] at w3
          rw [w3]
          refine x_is3 (q := 70) dX6_sends_69 rfl rfl ?_
          refine x_al_n (q := 71) dX6_sends_70 rfl rfl ?_
          refine x_il_n (q := 72) dX6_sends_71 rfl rfl ?_
          refine x_il_n (q := 73) dX6_sends_72 rfl rfl ?_
          refine x_al_n (q := 74) dX6_sends_73 rfl rfl ?_
          refine x_getR (q := 77) (o := some (10)) dX6_sends_74 rfl fX6_33 (by first | exact hs _ _ rfl | exact line6 hs hr) rfl (by first | exact hr2 _ _ _ rfl | exact hr _ _ _ rfl) ?_
          refine x_al_n (q := 78) dX6_sends_77 rfl rfl ?_
          refine x_getIe (q := 81) (z := S.1.2.2.2.2.2) dX6_sends_78 rfl fX6_110 (by first | exact hs _ _ rfl | exact line6 hs hr) rfl (mse) ?_
          refine x_il_n (q := 82) dX6_sends_81 rfl rfl ?_
          refine x_VI (q := 85) (ci := 0) dX6_sends_82 rfl kX6_sends_117 (c_endOf hs hr2) rfl rfl (by first | exact hs _ _ rfl | exact line6 hs hr) (by decide) rfl (Nat.le_of_ble_eq_true rfl) ⟨rfl, rfl⟩ ⟨Nat.zero_le _, Nat.zero_le _⟩ ?_
          rw [endF_Ex y4, hse]
          rw [hse] at q4
          rw [q4]
          refine x_V (q := 88) (ci := 3) dX6_sends_85 rfl kX6_sends_120 (c_append (v := u) (l := 6) (line6 hs hr2) (by rw [mn]; omega) (by rw [mn]; omega)) rfl rfl (by first | exact hs _ _ rfl | exact line6 hs hr) (by decide) rfl (Nat.le_of_ble_eq_true rfl) ⟨rfl, rfl⟩ ⟨Nat.zero_le _, Nat.zero_le _⟩ (fun r1 h1 hp => ?_)
          obtain ⟨rfl, rfl⟩ := hp
          refine x_il_n (q := 89) dX6_sends_88 rfl rfl ?_
          have hO : o_sends S t = ((w : Int), (S.1.1, S.1.2.1 + 1, upx S.1.2.2.1 S.1.2.1 (w : Int), upx S.1.2.2.2.1 S.1.2.1 (w : Int), upx S.1.2.2.2.2.1 S.1.2.1 t, (m : Int)), pushP S.2.1 S.1, S.2.2) := by unfold o_sends; rw [if_neg (by omega), if_neg c_27, if_neg (by omega), hse, Int.toNat_natCast, w3, q4]
          have hHV := HV_sends hV.1 c_27 (by omega) (show 0 ≤ t by omega) (by omega)
          rw [hse, Int.toNat_natCast, w3, q4] at hHV
          rw [hO]
          have hk : ∀ d, d < 6 ∨ 10 ≤ d → appL u 6 (w : Int) t (m : Int) d = u d := fun d hd => by unfold appL; rw [up_n _ _ _ (by omega), up_n _ _ _ (by omega), up_n _ _ _ (by omega), up_n _ _ _ (by omega), up_n _ _ _ (by omega)]
          refine x_iret dX6_sends_89 rfl rfl (Nat.zero_le _) ⟨rfl, rf2, _, rfl, hr2, RC_cur hR2 hV2.2.1 (fun d hd => hk d (by omega)) ⟨?_, ?_, ?_, fun i hi => ?_⟩ (hR2.2.1.cong (hk 10 (by decide)) (hk 11 (by decide)) (hk 12 (by decide))), ⟨hHV, hV2.2⟩, fun d hd => ⟨by rw [hk d (by omega)]; exact (m1 d hd).1, (m1 d hd).2⟩⟩
          · exact (banOf_cong (hk 5 (by decide))).trans mb
          · show appL u 6 (w : Int) t (m : Int) 6 3 = ((S.1.2.1 + 1 : Nat) : Int)
            unfold appL
            rw [up_at, if_neg (by decide), up_at, if_pos rfl, mn]; rfl
          · show appL u 6 (w : Int) t (m : Int) 6 4 = (m : Int)
            unfold appL
            rw [up_at, if_pos rfl]
          · have hi2 : i < S.1.2.1 + 1 := hi
            show appL u 6 (w : Int) t (m : Int) 7 i = upx S.1.2.2.1 S.1.2.1 (w : Int) i ∧ appL u 6 (w : Int) t (m : Int) 8 i = upx S.1.2.2.2.1 S.1.2.1 (w : Int) i ∧ appL u 6 (w : Int) t (m : Int) 9 i = upx S.1.2.2.2.2.1 S.1.2.1 t i
            unfold appL upx
            rw [mn, Int.toNat_natCast]
            by_cases he : i = S.1.2.1
            · simp [up, he]
            · have hwi := mw i (show i < S.1.2.1 by omega)
              simp [up, he, hwi.1, hwi.2.1, hwi.2.2]
        · skip
          have hO : o_sends S t = (-3, S) := by unfold o_sends; rw [if_neg (by omega), if_neg c_27, if_pos (by omega)]
          refine x_bi (q := 52) dX6_sends_50 rfl rfl ?_
          exact x_iret dX6_sends_52 rfl rfl (Nat.zero_le _) (cP_same hr hR hV (by rw [hO]) (by rw [hO]))
      · skip
        have hO : o_sends S t = (-2, S) := by unfold o_sends; rw [if_neg (by omega), if_pos c_27]
        refine x_bi (q := 32) dX6_sends_30 rfl rfl ?_
        exact x_iret dX6_sends_32 rfl rfl (Nat.zero_le _) (cP_same hr hR hV (by rw [hO]) (by rw [hO]))
    · skip
      have hO : o_sends S t = (-1, S) := by unfold o_sends; rw [if_pos (by omega)]
      refine x_ic (q := 19) dX6_sends_18 rfl rfl ?_
      exact x_iret dX6_sends_19 rfl rfl (Nat.zero_le _) (cP_same hr hR hV (by rw [hO]) (by rw [hO]))
set_option maxHeartbeats 4000000 in
set_option maxRecDepth 100000 in
theorem k_flips (hs : Ext sh) (hr : Rok rf) (hR : RC S rf v) (hV : SV S) {b : Int} : Cv g mX6_flips [aR 0, aI b] (sh, rf, v) (cP (o_flips S b) sh rf v) := by
  obtain ⟨⟨n0, n1, n2, n3, n4⟩, nb, nn, nse, nw⟩ := hR.now
  obtain ⟨x0, x1, x2, x3, x4, x5⟩ := hR.2.1
  have hv := hV.1.1
  have hS := nS_rng hv
  have hd := nd_rng hv
  have hq := pw16 hv.2.2.2.1 hv.2.2.2.2
  have hvb : VBan (v 5 0) (v 5 1) (v 5 2) := by rw [n0, n1, n2]; exact hv.1
  obtain ⟨hvB, hp1, hp2, hq1, hq2⟩ := hv
  have hmk := mk_rng (Gd S.1.1) (nS S.1.1)
  have h24 := hV.1.2.1
  have hmul : (S.1.2.1 : Int) * S.1.1.2.2.2.2 ≤ 24 * 4 := Int.mul_le_mul (by omega) (by omega) (by omega) (by omega)
  have hmul0 : 0 ≤ (S.1.2.1 : Int) * S.1.1.2.2.2.2 := Int.mul_nonneg (by omega) (by omega)
  refine x_entry (ls := [some (aR 0), some (aI b), none]) rfl rfl (Nat.le_of_ble_eq_true rfl) ?_
  refine x_al_n (q := 1) dX6_flips_0 rfl rfl ?_
  refine x_getR (q := 4) (o := some (4)) dX6_flips_1 rfl fX6_26 (by first | exact hs _ _ rfl | exact line6 hs hr) rfl (by first | exact hr2 _ _ _ rfl | exact hr _ _ _ rfl) ?_
  refine x_getR (q := 7) (o := some (5)) dX6_flips_4 rfl fX6_59 (by first | exact hs _ _ rfl | exact line6 hs hr) rfl (by first | exact hr2 _ _ _ rfl | exact hr _ _ _ rfl) ?_
  refine x_getIe (q := 10) (z := S.1.1.2.2.2.2) dX6_flips_7 rfl fX6_123 (by first | exact hs _ _ rfl | exact line6 hs hr) rfl (n4) ?_
  refine x_is2 (q := 11) dX6_flips_10 rfl rfl ?_
  refine x_il_n (q := 12) dX6_flips_11 rfl rfl ?_
  refine x_ic (q := 13) dX6_flips_12 rfl rfl ?_
  refine x_ic_lt (t := 36) (q := 16) dX6_flips_13 rfl rfl (fun c_13 => ?_) (fun c_13 => ?_)
  · skip
    exact absurd c_13 (by omega)
  · skip
    refine x_il_n (q := 17) dX6_flips_16 rfl rfl ?_
    refine x_if_lt (t := 36) (q := 20) dX6_flips_17 rfl rfl (fun c_17 => ?_) (fun c_17 => ?_)
    · skip
      have hO : o_flips S b = (-1, S) := by unfold o_flips; rw [if_pos (by omega)]
      refine x_ic (q := 37) dX6_flips_36 rfl rfl ?_
      exact x_iret dX6_flips_37 rfl rfl (Nat.zero_le _) (cP_same hr hR hV (by rw [hO]) (by rw [hO]))
    · skip
      refine x_il_n (q := 21) dX6_flips_20 rfl rfl ?_
      refine x_al_n (q := 22) dX6_flips_21 rfl rfl ?_
      refine x_getR (q := 25) (o := some (4)) dX6_flips_22 rfl fX6_26 (by first | exact hs _ _ rfl | exact line6 hs hr) rfl (by first | exact hr2 _ _ _ rfl | exact hr _ _ _ rfl) ?_
      refine x_getR (q := 28) (o := some (6)) dX6_flips_25 rfl fX6_66 (by first | exact hs _ _ rfl | exact line6 hs hr) rfl (by first | exact hr2 _ _ _ rfl | exact hr _ _ _ rfl) ?_
      refine x_getIe (q := 31) (z := (S.1.2.1 : Int)) dX6_flips_28 rfl fX6_109 (by first | exact hs _ _ rfl | exact line6 hs hr) rfl (nn) ?_
      refine x_il_n (q := 32) dX6_flips_31 rfl rfl ?_
      refine x_mul (q := 33) dX6_flips_32 rfl ⟨by omega, by omega⟩ ?_
      refine x_ic_lt (t := 38) (q := 36) dX6_flips_33 rfl rfl (fun c_33 => ?_) (fun c_33 => ?_)
      · skip
        obtain ⟨f1, f2, f3, f4, f5⟩ := flip_rng hV.1 (show 0 ≤ b by omega) c_33
        refine x_al_n (q := 39) dX6_flips_38 rfl rfl ?_
        refine x_V (q := 42) (ci := 6) dX6_flips_39 rfl kX6_flips_90 (k_remember hs hr hR hV) rfl rfl (by first | exact hs _ _ rfl | exact line6 hs hr) (by decide) rfl (Nat.le_of_ble_eq_true rfl) ⟨rfl, rfl⟩ ⟨Nat.zero_le _, Nat.zero_le _⟩ (fun r1 h1 hp => ?_)
        obtain ⟨rfl, rf2, u, rfl, hr2, hR2, m1, m2⟩ := hp
        have hV2 := SV_push hV
        have hN := hR2.now
        dsimp only at hN
        obtain ⟨-, mb, mn, mse, mw⟩ := hN
        have hw16 := hV.1.w16 f1
        have hu7 := mw _ f1
        refine x_al_n (q := 43) dX6_flips_42 rfl rfl ?_
        refine x_getR (q := 46) (o := some (4)) dX6_flips_43 rfl fX6_26 (by first | exact hs _ _ rfl | exact line6 hs hr) rfl (by first | exact hr2 _ _ _ rfl | exact hr _ _ _ rfl) ?_
        refine x_getR (q := 49) (o := some (6)) dX6_flips_46 rfl fX6_66 (by first | exact hs _ _ rfl | exact line6 hs hr) rfl (by first | exact hr2 _ _ _ rfl | exact hr _ _ _ rfl) ?_
        refine x_il_n (q := 50) dX6_flips_49 rfl rfl ?_
        refine x_il_n (q := 51) dX6_flips_50 rfl rfl ?_
        refine x_div (q := 52) dX6_flips_51 rfl (by omega) (by omega) ?_
        refine x_il_n (q := 53) dX6_flips_52 rfl rfl ?_
        refine x_ic (q := 54) dX6_flips_53 rfl rfl ?_
        refine x_sub (q := 55) dX6_flips_54 rfl ⟨by omega, by omega⟩ ?_
        refine x_il_n (q := 56) dX6_flips_55 rfl rfl ?_
        refine x_il_n (q := 57) dX6_flips_56 rfl rfl ?_
        refine x_rem (q := 58) dX6_flips_57 rfl (by omega) (by omega) ?_
        refine x_sub (q := 59) dX6_flips_58 rfl ⟨by omega, by omega⟩ ?_
        refine x_V (q := 62) (ci := 3) dX6_flips_59 rfl kX6_flips_126 (c_turn (v := u) (l := 6) (i := b / S.1.1.2.2.2.2) (p := S.1.1.2.2.2.2 - 1 - b % S.1.1.2.2.2.2) (line6 hs hr2) f2 (by omega) (by omega) (by omega) (by rw [hu7.1]; exact hw16.1)) rfl rfl (by first | exact hs _ _ rfl | exact line6 hs hr) (by decide) rfl (Nat.le_of_ble_eq_true rfl) ⟨rfl, rfl⟩ ⟨Nat.zero_le _, Nat.zero_le _⟩ (fun r1 h1 hp => ?_)
        obtain ⟨rfl, rfl⟩ := hp
        rw [show u (6 + 1) (b / S.1.1.2.2.2.2).toNat = S.1.2.2.1 (b / S.1.1.2.2.2.2).toNat from hu7.1, show (((S.1.2.2.1 (b / S.1.1.2.2.2.2).toNat).toNat ^^^ ((2 : Int) ^ (S.1.1.2.2.2.2 - 1 - b % S.1.1.2.2.2.2).toNat).toNat : Nat) : Int) = fnw S b from rfl]
        have hO : o_flips S b = (fnw S b / 2 ^ fpl S b % 2, (S.1.1, S.1.2.1, upx S.1.2.2.1 (b / S.1.1.2.2.2.2).toNat (fnw S b), S.1.2.2.2), pushP S.2.1 S.1, S.2.2) := by unfold o_flips; rw [if_neg (by omega)]
        rw [hO]
        have hk : ∀ d, d ≠ 7 → up u (6 + 1) (b / S.1.1.2.2.2.2).toNat (fnw S b) d = u d := fun d hd => up_n _ _ _ hd
        refine x_iret dX6_flips_62 rfl rfl (Nat.zero_le _) ⟨rfl, rf2, _, rfl, hr2, RC_cur hR2 hV2.2.1 (fun d hd => hk d (by omega)) ⟨(banOf_cong (hk 5 (by decide))).trans mb, by rw [hk 6 (by decide)]; exact mn, by rw [hk 6 (by decide)]; exact mse, fun i hi => ?_⟩ (hR2.2.1.cong (hk 10 (by decide)) (hk 11 (by decide)) (hk 12 (by decide))), ⟨HV_flip hV.1 (by omega) c_33, hV2.2⟩, fun d hd => ⟨by rw [hk d (by omega)]; exact (m1 d hd).1, (m1 d hd).2⟩⟩
        have hwi := mw i hi
        rw [hk (4 + 4) (by decide), hk (4 + 5) (by decide)]
        refine ⟨?_, hwi.2.1, hwi.2.2⟩
        show up u 7 (b / S.1.1.2.2.2.2).toNat (fnw S b) 7 i = upx S.1.2.2.1 (b / S.1.1.2.2.2.2).toNat (fnw S b) i
        unfold upx
        rw [up_at]
        by_cases he : i = (b / S.1.1.2.2.2.2).toNat
        · rw [if_pos he, if_pos he]
        · rw [if_neg he, if_neg he]; exact hwi.1
      · skip
        have hO : o_flips S b = (-1, S) := by unfold o_flips; rw [if_pos (by omega)]
        refine x_ic (q := 37) dX6_flips_36 rfl rfl ?_
        exact x_iret dX6_flips_37 rfl rfl (Nat.zero_le _) (cP_same hr hR hV (by rw [hO]) (by rw [hO]))
set_option maxHeartbeats 4000000 in
set_option maxRecDepth 100000 in
theorem k_tells (hs : Ext sh) (hr : Rok rf) (hR : RC S rf v) (hV : SV S)  : Cv g mX6_tells [aR 0] (sh, rf, v) (cP (o_tells S) sh rf v) := by
  obtain ⟨⟨n0, n1, n2, n3, n4⟩, nb, nn, nse, nw⟩ := hR.now
  obtain ⟨x0, x1, x2, x3, x4, x5⟩ := hR.2.1
  have hv := hV.1.1
  have hS := nS_rng hv
  have hd := nd_rng hv
  have hq := pw16 hv.2.2.2.1 hv.2.2.2.2
  have hvb : VBan (v 5 0) (v 5 1) (v 5 2) := by rw [n0, n1, n2]; exact hv.1
  obtain ⟨hvB, hp1, hp2, hq1, hq2⟩ := hv
  have hmk := mk_rng (Gd S.1.1) (nS S.1.1)
  obtain ⟨tm, tf⟩ := hR.2.2.2.2.2.2
  have hTX : TX v S.2.2.2.2.2 S.2.2.2.2.1 := ⟨tm, hV.2.2.2.2.2.2.1, tf⟩
  have hTR := hV.2.2.2.2.2.2.2
  have hpr := parse_rng S.2.2.2.2.2 S.2.2.2.2.1
  have h60 := hV.2.2.2.2.2.2.1
  refine x_entry (ls := [some (aR 0), none, none]) rfl rfl (Nat.le_of_ble_eq_true rfl) ?_
  refine x_al_n (q := 1) dX6_tells_0 rfl rfl ?_
  refine x_getR (q := 4) (o := some (1)) dX6_tells_1 rfl fX6_10 (by first | exact hs _ _ rfl | exact line6 hs hr) rfl (by first | exact hr2 _ _ _ rfl | exact hr _ _ _ rfl) ?_
  refine x_al_n (q := 5) dX6_tells_4 rfl rfl ?_
  refine x_getR (q := 8) (o := some (3)) dX6_tells_5 rfl fX6_19 (by first | exact hs _ _ rfl | exact line6 hs hr) rfl (by first | exact hr2 _ _ _ rfl | exact hr _ _ _ rfl) ?_
  refine x_V (q := 11) (ci := 5) dX6_tells_8 rfl kX6_tells_86 (c_readTo hs hr hTX hTR) rfl rfl (by first | exact hs _ _ rfl | exact line6 hs hr) (by decide) rfl (Nat.le_of_ble_eq_true rfl) ⟨rfl, rfl⟩ ⟨Nat.zero_le _, Nat.zero_le _⟩ (fun r1 h1 hp => ?_)
  obtain ⟨rfl, u0, rfl, r1, r2, r3⟩ := hp
  refine x_is1 (q := 12) dX6_tells_11 rfl rfl ?_
  refine x_il_n (q := 13) dX6_tells_12 rfl rfl ?_
  refine x_ic (q := 14) dX6_tells_13 rfl rfl ?_
  refine x_ic_eq (t := 22) (q := 17) dX6_tells_14 rfl rfl (fun c_14 => ?_) (fun c_14 => ?_)
  · skip
    have hR0 : RC S rf u0 := hR.cong hV.2.1 (fun d q1 q2 q3 q4 q5 q6 q7 => r1 d q2 q3) r2
    refine x_al_n (q := 23) dX6_tells_22 rfl rfl ?_
    refine x_V (q := 26) (ci := 6) dX6_tells_23 rfl kX6_tells_90 (k_remember hs hr hR0 hV) rfl rfl (by first | exact hs _ _ rfl | exact line6 hs hr) (by decide) rfl (Nat.le_of_ble_eq_true rfl) ⟨rfl, rfl⟩ ⟨Nat.zero_le _, Nat.zero_le _⟩ (fun r1 h1 hp => ?_)
    obtain ⟨rfl, rf2, u, rfl, hr2, hR2, m1, m2⟩ := hp
    have hV2 := SV_push hV
    have hb3 : banOf u 3 = (parse S.2.2.2.2.2 S.2.2.2.2.1).2 := by rw [banOf_cong (m2 3 (by decide) (by decide))]; exact r3 c_14
    have hvl : Vld (parse S.2.2.2.2.2 S.2.2.2.2.1).2 := by rcases hpr with h | h; exact h.2; exact absurd c_14 (by omega)
    refine x_al_n (q := 27) dX6_tells_26 rfl rfl ?_
    refine x_getR (q := 30) (o := some (4)) dX6_tells_27 rfl fX6_26 (by first | exact hs _ _ rfl | exact line6 hs hr) rfl (by first | exact hr2 _ _ _ rfl | exact hr _ _ _ rfl) ?_
    refine x_getR (q := 33) (o := some (5)) dX6_tells_30 rfl fX6_59 (by first | exact hs _ _ rfl | exact line6 hs hr) rfl (by first | exact hr2 _ _ _ rfl | exact hr _ _ _ rfl) ?_
    refine x_al_n (q := 34) dX6_tells_33 rfl rfl ?_
    refine x_getR (q := 37) (o := some (3)) dX6_tells_34 rfl fX6_19 (by first | exact hs _ _ rfl | exact line6 hs hr) rfl (by first | exact hr2 _ _ _ rfl | exact hr _ _ _ rfl) ?_
    refine x_V (q := 40) (ci := 1) dX6_tells_37 rfl kX6_tells_93 (c_banCopy (v := u) (c := 5) (d := 3) (hs _ _ rfl) (hs _ _ rfl) (by decide)) rfl rfl (by first | exact hs _ _ rfl | exact line6 hs hr) (by decide) rfl (Nat.le_of_ble_eq_true rfl) ⟨rfl, rfl⟩ ⟨Nat.zero_le _, Nat.zero_le _⟩ (fun r1 h1 hp => ?_)
    obtain ⟨rfl, rfl⟩ := hp
    rw [hb3]
    refine x_al_n (q := 41) dX6_tells_40 rfl rfl ?_
    refine x_getR (q := 44) (o := some (10)) dX6_tells_41 rfl fX6_33 (by first | exact hs _ _ rfl | exact line6 hs hr) rfl (by first | exact hr2 _ _ _ rfl | exact hr _ _ _ rfl) ?_
    refine x_al_n (q := 45) dX6_tells_44 rfl rfl ?_
    refine x_getR (q := 48) (o := some (4)) dX6_tells_45 rfl fX6_26 (by first | exact hs _ _ rfl | exact line6 hs hr) rfl (by first | exact hr2 _ _ _ rfl | exact hr _ _ _ rfl) ?_
    refine x_getR (q := 51) (o := some (5)) dX6_tells_48 rfl fX6_59 (by first | exact hs _ _ rfl | exact line6 hs hr) rfl (by first | exact hr2 _ _ _ rfl | exact hr _ _ _ rfl) ?_
    refine x_V (q := 54) (ci := 0) dX6_tells_51 rfl kX6_tells_62 (c_build hs hr2 (v := setBan u 5 (parse S.2.2.2.2.2 S.2.2.2.2.1).2) (c := 5) (hs _ _ rfl) (by decide) (by rw [setBan_b]; exact hvl)) rfl rfl (by first | exact hs _ _ rfl | exact line6 hs hr) (by decide) rfl (Nat.le_of_ble_eq_true rfl) ⟨rfl, rfl⟩ ⟨Nat.zero_le _, Nat.zero_le _⟩ (fun r1 h1 hp => ?_)
    obtain ⟨rfl, w0, rfl, g1, g2⟩ := hp
    rw [setBan_b] at g1
    refine x_al_n (q := 55) dX6_tells_54 rfl rfl ?_
    refine x_getR (q := 58) (o := some (4)) dX6_tells_55 rfl fX6_26 (by first | exact hs _ _ rfl | exact line6 hs hr) rfl (by first | exact hr2 _ _ _ rfl | exact hr _ _ _ rfl) ?_
    refine x_getR (q := 61) (o := some (6)) dX6_tells_58 rfl fX6_66 (by first | exact hs _ _ rfl | exact line6 hs hr) rfl (by first | exact hr2 _ _ _ rfl | exact hr _ _ _ rfl) ?_
    refine x_al_n (q := 62) dX6_tells_61 rfl rfl ?_
    refine x_getR (q := 65) (o := some (10)) dX6_tells_62 rfl fX6_33 (by first | exact hs _ _ rfl | exact line6 hs hr) rfl (by first | exact hr2 _ _ _ rfl | exact hr _ _ _ rfl) ?_
    refine x_getIe (q := 68) (z := Bg (parse S.2.2.2.2.2 S.2.2.2.2.1).2) dX6_tells_65 rfl fX6_70 (by first | exact hs _ _ rfl | exact line6 hs hr) rfl (g1.2.2.1) ?_
    refine x_V (q := 71) (ci := 3) dX6_tells_68 rfl kX6_tells_74 (c_empty (v := w0) (l := 6) (line6 hs hr2)) rfl rfl (by first | exact hs _ _ rfl | exact line6 hs hr) (by decide) rfl (Nat.le_of_ble_eq_true rfl) ⟨rfl, rfl⟩ ⟨Nat.zero_le _, Nat.zero_le _⟩ (fun r1 h1 hp => ?_)
    obtain ⟨rfl, rfl⟩ := hp
    refine x_al_n (q := 72) dX6_tells_71 rfl rfl ?_
    refine x_getR (q := 75) (o := some (1)) dX6_tells_72 rfl fX6_10 (by first | exact hs _ _ rfl | exact line6 hs hr) rfl (by first | exact hr2 _ _ _ rfl | exact hr _ _ _ rfl) ?_
    refine x_ic (q := 76) dX6_tells_75 rfl rfl ?_
    refine x_putI (q := 79) dX6_tells_76 rfl fX6_80 (by first | exact hs _ _ rfl | exact line6 hs hr) (.inl rfl) rfl ?_
    refine x_al_n (q := 80) dX6_tells_79 rfl rfl ?_
    refine x_ic (q := 81) dX6_tells_80 rfl rfl ?_
    refine x_putI (q := 84) dX6_tells_81 rfl fX6_96 (by first | exact hs _ _ rfl | exact line6 hs hr) (.inl rfl) rfl ?_
    refine x_ic (q := 85) dX6_tells_84 rfl rfl ?_
    refine x_is2 (q := 86) dX6_tells_85 rfl rfl ?_
    have hO : o_tells S = ((nS (parse S.2.2.2.2.2 S.2.2.2.2.1).2 : Int), ((parse S.2.2.2.2.2 S.2.2.2.2.1).2, 0, S.1.2.2.1, S.1.2.2.2.1, S.1.2.2.2.2.1, Bg (parse S.2.2.2.2.2 S.2.2.2.2.1).2), pushP S.2.1 S.1, (none, none), (0, S.2.2.2.1.2), 0, S.2.2.2.2.2) := by unfold o_tells; rw [if_neg (by rw [c_14]; decide)]
    rw [hO]
    have hk : ∀ d, d ≠ 0 → d ≠ 1 → d ≠ 6 → (up (up (up (up w0 6 3 0) 6 4 (Bg (parse S.2.2.2.2.2 S.2.2.2.2.1).2)) 1 1 0) 0 10 0) d = w0 d := fun d h0 h1 h6 => by rw [up_n _ _ _ h0, up_n _ _ _ h1, up_n _ _ _ h6, up_n _ _ _ h6]
    generalize hW0 : up (up (up (up w0 6 3 0) 6 4 (Bg (parse S.2.2.2.2.2 S.2.2.2.2.1).2)) 1 1 0) 0 10 0 = W0 at hk ⊢
    have y0 : W0 0 6 = w0 0 6 := by rw [← hW0]; simp [up]
    have y1 : W0 0 10 = 0 := by rw [← hW0]; simp [up]
    have y2 : W0 1 1 = 0 := by rw [← hW0]; simp [up]
    have y3 : W0 6 3 = 0 := by rw [← hW0]; simp [up]
    have y4 : W0 6 4 = Bg (parse S.2.2.2.2.2 S.2.2.2.2.1).2 := by rw [← hW0]; simp [up]
    have hw : ∀ d, d < 5 ∨ 15 ≤ d → w0 d = u d := fun d hd => by rw [g2 d (by omega), setBan_n (by omega)]
    have hw5 : banOf w0 5 = (parse S.2.2.2.2.2 S.2.2.2.2.1).2 := (banOf_cong (g2 5 (by decide))).trans setBan_b
    refine x_up (S := fun i => ∀ W : Nat → Nat → Int, ((∀ j, j < i → W 68 j = 0) ∧ ∀ d, d ≠ 68 → W d = W0 d) → Wv g mX6_tells 0 0 86 [some (aR 0), some (aI (parse S.2.2.2.2.2 S.2.2.2.2.1).1), some (aI (i : Int))] [] (sh, rf2, W) (cP ((nS (parse S.2.2.2.2.2 S.2.2.2.2.1).2 : Int), ((parse S.2.2.2.2.2 S.2.2.2.2.1).2, 0, S.1.2.2.1, S.1.2.2.2.1, S.1.2.2.2.2.1, Bg (parse S.2.2.2.2.2 S.2.2.2.2.1).2), pushP S.2.1 S.1, (none, none), (0, S.2.2.2.1.2), 0, S.2.2.2.2.2) sh rf v)) 2 ?_ ?_ 0 (Nat.zero_le _) W0 ⟨fun j hj => by omega, fun _ _ => rfl⟩
    · intro W1 ⟨q1, q2⟩
      have z1 : ∀ d, d ≠ 68 → d ≠ 0 → d ≠ 1 → d ≠ 6 → W1 d = w0 d := fun d h1 h2 h3 h4 => by rw [q2 d h1, hk d h2 h3 h4]
      obtain ⟨a1, a2, ⟨π, p1, p2, p3⟩, a4, -, -, -⟩ := hR2
      refine x_il_n (q := 87) dX6_tells_86 rfl rfl ?_
      refine x_ic (q := 88) dX6_tells_87 rfl rfl ?_
      refine x_ic_ge (t := 104) (q := 91) dX6_tells_88 rfl rfl (fun c_88 => ?_) (fun c_88 => ?_)
      · skip
        refine x_al_n (q := 105) dX6_tells_104 rfl rfl ?_
        refine x_getR (q := 108) (o := some (10)) dX6_tells_105 rfl fX6_33 (hs _ _ rfl) rfl (by first | exact hr2 _ _ _ rfl | exact hr _ _ _ rfl) ?_
        refine x_getIe (q := 111) (z := (nS (parse S.2.2.2.2.2 S.2.2.2.2.1).2 : Int)) dX6_tells_108 rfl fX6_99 (hs _ _ rfl) rfl (by rw [z1 10 (by decide) (by decide) (by decide) (by decide)]; exact g1.1) ?_
        refine x_iret dX6_tells_111 rfl rfl (Nat.zero_le _) ⟨rfl, rf2, W1, rfl, hr2, ⟨⟨(banOf_cong (z1 5 (by decide) (by decide) (by decide) (by decide))).trans hw5, by rw [q2 (4 + 2) (by decide)]; exact y3, by rw [q2 (4 + 2) (by decide)]; exact y4, fun i hi => absurd hi (Nat.not_lt_zero _)⟩, g1.cong (z1 10 (by decide) (by decide) (by decide) (by decide)) (z1 11 (by decide) (by decide) (by decide) (by decide)) (z1 12 (by decide) (by decide) (by decide) (by decide)), ⟨π, p1, p2, fun i hh hi => ?_⟩, ?_, ⟨q1 0 (by decide), q1 1 (by decide), (fun hh hi => by cases hi), (fun hh hi => by cases hi)⟩, ⟨by rw [q2 0 (by decide)]; exact y1, fun i hi => absurd hi (Nat.not_lt_zero _)⟩, ⟨by rw [q2 1 (by decide)]; exact y2, fun i hi => absurd hi (Nat.not_lt_zero _)⟩⟩, ⟨HV_new hvl _ _ _, hV2.2.1, hV2.2.2.1, (fun hh hi => by cases hi), (fun hh hi => by cases hi), ⟨Nat.zero_le _, fun i hi => absurd hi (Nat.not_lt_zero _)⟩, Nat.zero_le _, fun i hi => absurd hi (Nat.not_lt_zero _)⟩, fun d hd => ⟨by rw [z1 d (by omega) (by omega) (by omega) (by omega), hw d (by omega), (m1 d hd).1]; exact r1 d (by omega) (by omega), (m1 d hd).2⟩⟩
        · have hl : i < (pushP S.2.1 S.1).length := (List.getElem?_eq_some_iff.mp hi).1
          have h66 := pushP_len S.2.1 S.1 hV.2.1
          have := p1.1 i (by omega)
          exact (p3 i hh hi).cong (fun d g1 g2 => by rw [z1 d (by omega) (by omega) (by omega) (by omega), hw d (by omega)])
        · rw [q2 0 (by decide), y0, hw 0 (by decide)]; exact a4
      · skip
        exact absurd (by decide) c_88
    · intro i hi ih W1 ⟨q1, q2⟩
      refine x_il_n (q := 87) dX6_tells_86 rfl rfl ?_
      refine x_ic (q := 88) dX6_tells_87 rfl rfl ?_
      refine x_ic_ge (t := 104) (q := 91) dX6_tells_88 rfl rfl (fun c_88 => ?_) (fun c_88 => ?_)
      · skip
        exact absurd c_88 (by omega)
      · skip
        refine x_al_n (q := 92) dX6_tells_91 rfl rfl ?_
        refine x_getR (q := 95) (o := some (68)) dX6_tells_92 rfl fX6_51 (hs _ _ rfl) rfl (by first | exact hr2 _ _ _ rfl | exact hr _ _ _ rfl) ?_
        refine x_il_n (q := 96) dX6_tells_95 rfl rfl ?_
        refine x_ic (q := 97) dX6_tells_96 rfl rfl ?_
        refine x_zast (q := 98) dX6_tells_97 rfl (hs _ _ rfl) (by omega) (by omega) (by first | exact .inl rfl | exact .inr rfl | exact b2i_01 _) ?_
        refine x_ii2 (q := 101) dX6_tells_98 rfl rfl ⟨by omega, by omega⟩ ?_
        refine x_goto (t := 86) dX6_tells_101 rfl ?_
        refine ih _ ⟨fun j hj => ?_, fun d hd => ?_⟩
        · rw [up_at]
          by_cases hji : j = i
          · rw [if_pos (by omega)]
          · rw [if_neg (by omega)]; exact q1 j (by omega)
        · rw [up_n _ _ _ hd]; exact q2 d hd
  · skip
    have hO : o_tells S = (-10 - (parse S.2.2.2.2.2 S.2.2.2.2.1).1, S) := by unfold o_tells; rw [if_pos c_14]
    refine x_bi (q := 19) dX6_tells_17 rfl rfl ?_
    refine x_il_n (q := 20) dX6_tells_19 rfl rfl ?_
    refine x_sub (q := 21) dX6_tells_20 rfl ⟨by omega, by omega⟩ ?_
    rw [hO]
    refine x_iret dX6_tells_21 rfl rfl (Nat.zero_le _) ⟨rfl, rf, u0, rfl, hr, hR.cong hV.2.1 (fun d q1 q2 q3 q4 q5 q6 q7 => r1 d q2 q3) r2, hV, fun d hd => ⟨r1 d (by omega) (by omega), rfl⟩⟩
end CLD

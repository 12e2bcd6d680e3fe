/-! ===== the Model: what is told ===== -/
theorem SK_fix {t : Nat → Int} {n a b d : Nat} (h : SK t n a b) (k : SK t n b d) : d = b := by
  by_cases e : b < n
  · exact SK_self k e (h.2.2.2 e)
  · have := k.1; have := k.2.1; have := h.2.1; omega
theorem Bd_l {t : Nat → Int} {n a : Nat} (h : figB t n (a : Int) = false) : Bd t n (a + 1) := by
  unfold Bd
  rw [show ((a + 1 : Nat) : Int) - 1 = (a : Int) by omega, h, Bool.and_false]
theorem Bd_0 (t : Nat → Int) (n : Nat) : Bd t n 0 := by
  unfold Bd
  rw [show (((0 : Nat) : Int) - 1) = -1 from rfl, fig_32 (x := -1) (by unfold ltr; rw [if_neg (by omega)]), Bool.and_false]
theorem cr_nn {t : Nat → Int} {n a b : Nat} {s : Sg} (h : SK t n b a) (hb : Bd t n a) (e : a < n) (hs : stT t n (a : Int) s = none) : (cr t n a s).1 = (a : Int) := by
  rw [cr_s e, if_pos (tok_t (h.2.2.2 e) hb), hs]
def NX (u : Nat → Nat → Int) (c : Cfg) : Prop := u 79 0 = c.1 ∧ u 79 1 = eA c ∧ u 79 2 = eB c ∧ u 79 3 = c.2.2.2.1 ∧ u 79 4 = c.2.2.2.2
theorem XF.sm {v u : Nat → Nat → Int} (h : XF v u) : Sm v u := Sm.of (fun d h1 h2 => h.1 d h1 (by omega)) (h.2 2 (by decide) (by decide)) (h.2 6 (by decide) (by decide)) (h.2 8 (by decide) (by decide))
section MOL
variable {g : GL} {sh : List (Nat × Nat)} {rf : Nat → Nat → Option Nat} {v : Nat → Nat → Int} {t : Nat → Int} {n : Nat} {S : St}

set_option maxHeartbeats 4000000 in
set_option maxRecDepth 100000 in
theorem m_takesBan (hs : ExtM sh) (hr : RokM rf) (hT : TM v t n) (h0 : v 70 13 = 0) : Cv g mX7_takesBan [aR 70] (sh, rf, v) (fun r h1 => ∃ (z : Bool) (u : Nat → Nat → Int), r = some (aI (b2i z)) ∧ h1 = (sh, rf, u) ∧ XF v u ∧ u 79 3 = v 79 3 ∧ u 79 4 = v 79 4 ∧ (z = true → ∃ (a : Nat) (so lo hi : Int), a ≤ n ∧ Bd t n a ∧ u 70 13 = (a : Int) ∧ parse t n = cr t n a (7, false, false, so, lo, hi, 1, 2) ∧ u 79 0 = so ∧ u 79 1 = eA (so, lo, hi, 1, 2) ∧ u 79 2 = eB (so, lo, hi, 1, 2)) ∧ (z = false → ¬ (parse t n).1 = -1 ∧ u 70 13 = (parse t n).1)) := by
  have hn := hT.2.1
  refine x_entry (ls := [some (aR 70)]) rfl rfl (Nat.le_of_ble_eq_true rfl) ?_
  refine x_al_n (q := 1) dX7_takesBan_0 rfl rfl ?_
  refine x_bi (q := 3) dX7_takesBan_1 rfl rfl ?_
  refine x_V (q := 6) (ci := 7) dX7_takesBan_3 rfl kX7_takesBan_123 (m_takes hs hr hT (a := 0) (by omega) (h0) (x := 114) (by decide)) rfl rfl (hs _ _ rfl) (by decide) rfl (Nat.le_of_ble_eq_true rfl) ⟨rfl, rfl⟩ ⟨Nat.zero_le _, Nat.zero_le _⟩ (fun r1 h1 hp => ?_)
  obtain ⟨b1, z1, u1, rfl, rfl, hk1, hz1, xf1, n1, t1, p1⟩ := hp
  have hb1 := hk1.2.1
  have hP1 : parse t n = cr t n b1 Sg0 := cr_sk hk1 Sg0
  have hB1 : Bd t n b1 := Bd_sk hk1 (Bd_0 t n)
  refine x_if_eq (t := 75) (q := 9) dX7_takesBan_6 rfl rfl (fun c_6 => ?_) (fun c_6 => ?_)
  · skip
    have hz1f := b2i_0.mp c_6
    rw [hz1f, if_neg (by decide)] at p1
    rw [hz1] at hz1f
    have hl1 := of_decide_eq_false hz1f
    refine x_al_n (q := 76) dX7_takesBan_75 rfl rfl ?_
    refine x_bi (q := 78) dX7_takesBan_76 rfl rfl ?_
    refine x_V (q := 81) (ci := 7) dX7_takesBan_78 rfl kX7_takesBan_123 (m_takes hs hr (hT.xf xf1) (a := b1) (by omega) (p1) (x := 99) (by decide)) rfl rfl (hs _ _ rfl) (by decide) rfl (Nat.le_of_ble_eq_true rfl) ⟨rfl, rfl⟩ ⟨Nat.zero_le _, Nat.zero_le _⟩ (fun r1 h1 hp => ?_)
    obtain ⟨b4, z4, u4, rfl, rfl, hk4, hz4, xf4, n4, t4, p4⟩ := hp
    have hb4 := hk4.2.1
    have h41 := SK_fix hk1 hk4
    subst h41
    refine x_if_eq (t := 121) (q := 84) dX7_takesBan_81 rfl rfl (fun c_81 => ?_) (fun c_81 => ?_)
    · skip
      have hz4f := b2i_0.mp c_81
      rw [hz4f, if_neg (by decide)] at p4
      rw [hz4] at hz4f
      have hl4 := of_decide_eq_false hz4f
      refine x_al_n (q := 122) dX7_takesBan_121 rfl rfl ?_
      refine x_getR (q := 125) (o := some (79)) dX7_takesBan_122 rfl fX7_35 (hs _ _ rfl) rfl (hr _ _ rfl) ?_
      refine x_ic (q := 126) dX7_takesBan_125 rfl rfl ?_
      refine x_ic (q := 127) dX7_takesBan_126 rfl rfl ?_
      refine x_iast (q := 128) dX7_takesBan_127 rfl (hs _ _ rfl) (by omega) (by omega) ?_
      refine x_al_n (q := 129) dX7_takesBan_128 rfl rfl ?_
      refine x_bi (q := 131) dX7_takesBan_129 rfl rfl ?_
      refine x_V (q := 134) (ci := 7) dX7_takesBan_131 rfl kX7_takesBan_123 (m_takes hs hr (hT.xf ((xf1.trans xf4).up79 _ _)) (a := b4) (by omega) (by rw [up_n _ _ _ (by decide)]; exact p4) (x := 98) (by decide)) rfl rfl (hs _ _ rfl) (by decide) rfl (Nat.le_of_ble_eq_true rfl) ⟨rfl, rfl⟩ ⟨Nat.zero_le _, Nat.zero_le _⟩ (fun r1 h1 hp => ?_)
      obtain ⟨b6, z6, u6, rfl, rfl, hk6, hz6, xf6, n6, t6, p6⟩ := hp
      have hb6 := hk6.2.1
      have h64 := SK_fix hk1 hk6
      subst h64
      refine x_if_eq (t := 148) (q := 137) dX7_takesBan_134 rfl rfl (fun c_134 => ?_) (fun c_134 => ?_)
      · skip
        have hz6f := b2i_0.mp c_134
        rw [hz6f, if_neg (by decide)] at p6
        rw [hz6] at hz6f
        have hl6 := of_decide_eq_false hz6f
        have hf : (parse t n).1 = (b6 : Int) := by
          rw [hP1]
          refine cr_no hk1 hB1 (by decide) (fun hlt => ?_)
          show stT t n (b6 : Int) (0, false, false, 0, 1, 3, 1, 2) = none
          have hq := ltr_at (t := t) hlt
          rw [stT_0, if_neg (fun q => hl1 ⟨hlt, by rw [← hq]; exact q⟩), if_neg (fun q => hl4 ⟨hlt, by rw [← hq]; exact q⟩), if_neg (fun q => hl6 ⟨hlt, by rw [← hq]; exact q⟩)]
        refine x_ic (q := 149) dX7_takesBan_148 rfl rfl ?_
        first
        | exact x_zret dX7_takesBan_149 rfl (.inr rfl) rfl (Nat.zero_le _) ⟨true, _, rfl, rfl, (((xf1.trans xf4).up79 _ _).trans xf6).trans xf7, by rw [n7 3 (by decide) (by decide), n6, up_at, if_neg (by decide), n4, n1], by rw [n7 4 (by decide) (by decide), n6, up_at, if_neg (by decide), n4, n1], fun _ => ⟨b7 + tlen t n (b7 : Int), 2, btA t n (b7 : Int) (tlen t n (b7 : Int)), (tlen t n (b7 : Int) : Int), y6, y7, by rw [y5]; omega, hP3, by rw [n7 0 (by decide) (by decide), n6, up_at, if_pos (by decide)], y3, y4⟩, (fun h => by cases h)⟩
        | exact x_zret dX7_takesBan_149 rfl (.inl rfl) rfl (Nat.zero_le _) ⟨false, _, rfl, rfl, (((xf1.trans xf4).up79 _ _).trans xf6).trans xf7, by rw [n7 3 (by decide) (by decide), n6, up_at, if_neg (by decide), n4, n1], by rw [n7 4 (by decide) (by decide), n6, up_at, if_neg (by decide), n4, n1], (fun h => by cases h), fun _ => ⟨by rw [hf]; omega, by rw [hf]; exact hzf.2⟩⟩
        | exact x_zret dX7_takesBan_149 rfl (.inl rfl) rfl (Nat.zero_le _) ⟨false, _, rfl, rfl, ((xf1.trans xf4).up79 _ _).trans xf6, by rw [n6, up_at, if_neg (by decide), n4, n1], by rw [n6, up_at, if_neg (by decide), n4, n1], (fun h => by cases h), fun _ => ⟨by rw [hf]; omega, by rw [hf]; exact p6⟩⟩
      · skip
        have hzz := b2i_n0.mp c_134
        rw [hzz, if_pos rfl] at p6
        rw [hz6] at hzz
        have hl6 := of_decide_eq_true hzz
        have hL6 : ltr t n (b6 : Int) = 98 := by rw [ltr_at hl6.1]; exact hl6.2
        have hP2 : parse t n = cr t n (b6 + 1) (4, false, false, 2, 1, 3, 1, 2) := hP1.trans (cr_some hl6.1 (by rw [hL6]; decide) hB1 (by show stT t n (b6 : Int) (0, false, false, 0, 1, 3, 1, 2) = _; rw [stT_0, if_neg (by rw [hL6]; decide), if_neg (by rw [hL6]; decide), if_pos hL6]))
        have hB2 : Bd t n (b6 + 1) := Bd_l (by unfold figB; rw [hL6]; rfl)
        refine x_al_n (q := 138) dX7_takesBan_137 rfl rfl ?_
        refine x_V (q := 141) (ci := 7) dX7_takesBan_138 rfl kX7_takesBan_130 (m_takesBits hs hr (hT.xf (((xf1.trans xf4).up79 _ _).trans xf6)) (a := b6 + 1) (by omega) (by rw [p6]; omega)) rfl rfl (hs _ _ rfl) (by decide) rfl (Nat.le_of_ble_eq_true rfl) ⟨rfl, rfl⟩ ⟨Nat.zero_le _, Nat.zero_le _⟩ (fun r1 h1 hp => ?_)
        obtain ⟨b7, z7, u7, rfl, rfl, hk7, xf7, n7, hy7, hx7⟩ := hp
        have hb7 := hk7.2.1
        have hB3 := Bd_sk hk7 hB2
        refine x_if_eq (t := 148) (q := 144) dX7_takesBan_141 rfl rfl (fun c_141 => ?_) (fun c_141 => ?_)
        · skip
          have hzf := hx7 (b2i_0.mp c_141)
          have hf : (parse t n).1 = (b7 : Int) := by rw [hP2, cr_sk hk7]; exact cr_no hk7 hB3 (by show ¬ (4 : Nat) = 8; decide) (fun _ => by rw [stT_4, if_pos hzf.1])
          refine x_ic (q := 149) dX7_takesBan_148 rfl rfl ?_
          first
          | exact x_zret dX7_takesBan_149 rfl (.inr rfl) rfl (Nat.zero_le _) ⟨true, _, rfl, rfl, (((xf1.trans xf4).up79 _ _).trans xf6).trans xf7, by rw [n7 3 (by decide) (by decide), n6, up_at, if_neg (by decide), n4, n1], by rw [n7 4 (by decide) (by decide), n6, up_at, if_neg (by decide), n4, n1], fun _ => ⟨b7 + tlen t n (b7 : Int), 2, btA t n (b7 : Int) (tlen t n (b7 : Int)), (tlen t n (b7 : Int) : Int), y6, y7, by rw [y5]; omega, hP3, by rw [n7 0 (by decide) (by decide), n6, up_at, if_pos (by decide)], y3, y4⟩, (fun h => by cases h)⟩
          | exact x_zret dX7_takesBan_149 rfl (.inl rfl) rfl (Nat.zero_le _) ⟨false, _, rfl, rfl, (((xf1.trans xf4).up79 _ _).trans xf6).trans xf7, by rw [n7 3 (by decide) (by decide), n6, up_at, if_neg (by decide), n4, n1], by rw [n7 4 (by decide) (by decide), n6, up_at, if_neg (by decide), n4, n1], (fun h => by cases h), fun _ => ⟨by rw [hf]; omega, by rw [hf]; exact hzf.2⟩⟩
          | exact x_zret dX7_takesBan_149 rfl (.inl rfl) rfl (Nat.zero_le _) ⟨false, _, rfl, rfl, ((xf1.trans xf4).up79 _ _).trans xf6, by rw [n6, up_at, if_neg (by decide), n4, n1], by rw [n6, up_at, if_neg (by decide), n4, n1], (fun h => by cases h), fun _ => ⟨by rw [hf]; omega, by rw [hf]; exact p6⟩⟩
        · skip
          obtain ⟨y1, y2, y3, y4, y5, y6, y7⟩ := hy7 (b2i_n0.mp c_141)
          have htr := tlen_rng t n (b7 : Int)
          have hlt := fig_lt y1
          have hP3 : parse t n = cr t n (b7 + tlen t n (b7 : Int)) (7, false, false, 2, btA t n (b7 : Int) (tlen t n (b7 : Int)), (tlen t n (b7 : Int) : Int), 1, 2) := by rw [hP2, cr_sk hk7, cr_some (s2 := (7, false, false, 2, btA t n (b7 : Int) (tlen t n (b7 : Int)), (tlen t n (b7 : Int) : Int), 1, 2)) (by omega) (hk7.2.2.2 (by omega)) hB3 (by rw [stT_4, if_neg y2]), cr_run hn y1 (tlen t n (b7 : Int) - 1) (by omega), show b7 + 1 + (tlen t n (b7 : Int) - 1) = b7 + tlen t n (b7 : Int) by omega]
          refine x_ic (q := 145) dX7_takesBan_144 rfl rfl ?_
          refine x_goto (t := 149) dX7_takesBan_145 rfl ?_
          first
          | exact x_zret dX7_takesBan_149 rfl (.inr rfl) rfl (Nat.zero_le _) ⟨true, _, rfl, rfl, (((xf1.trans xf4).up79 _ _).trans xf6).trans xf7, by rw [n7 3 (by decide) (by decide), n6, up_at, if_neg (by decide), n4, n1], by rw [n7 4 (by decide) (by decide), n6, up_at, if_neg (by decide), n4, n1], fun _ => ⟨b7 + tlen t n (b7 : Int), 2, btA t n (b7 : Int) (tlen t n (b7 : Int)), (tlen t n (b7 : Int) : Int), y6, y7, by rw [y5]; omega, hP3, by rw [n7 0 (by decide) (by decide), n6, up_at, if_pos (by decide)], y3, y4⟩, (fun h => by cases h)⟩
          | exact x_zret dX7_takesBan_149 rfl (.inl rfl) rfl (Nat.zero_le _) ⟨false, _, rfl, rfl, (((xf1.trans xf4).up79 _ _).trans xf6).trans xf7, by rw [n7 3 (by decide) (by decide), n6, up_at, if_neg (by decide), n4, n1], by rw [n7 4 (by decide) (by decide), n6, up_at, if_neg (by decide), n4, n1], (fun h => by cases h), fun _ => ⟨by rw [hf]; omega, by rw [hf]; exact hzf.2⟩⟩
          | exact x_zret dX7_takesBan_149 rfl (.inl rfl) rfl (Nat.zero_le _) ⟨false, _, rfl, rfl, ((xf1.trans xf4).up79 _ _).trans xf6, by rw [n6, up_at, if_neg (by decide), n4, n1], by rw [n6, up_at, if_neg (by decide), n4, n1], (fun h => by cases h), fun _ => ⟨by rw [hf]; omega, by rw [hf]; exact p6⟩⟩
    · skip
      have hzz := b2i_n0.mp c_81
      rw [hzz, if_pos rfl] at p4
      rw [hz4] at hzz
      have hl4 := of_decide_eq_true hzz
      have hL4 : ltr t n (b4 : Int) = 99 := by rw [ltr_at hl4.1]; exact hl4.2
      have hP2 : parse t n = cr t n (b4 + 1) (3, false, false, 1, 1, 3, 1, 2) := hP1.trans (cr_some hl4.1 (by rw [hL4]; decide) hB1 (by show stT t n (b4 : Int) (0, false, false, 0, 1, 3, 1, 2) = _; rw [stT_0, if_neg (by rw [hL4]; decide), if_pos hL4]))
      have hB2 : Bd t n (b4 + 1) := Bd_l (by unfold figB; rw [hL4]; rfl)
      refine x_al_n (q := 85) dX7_takesBan_84 rfl rfl ?_
      refine x_getR (q := 88) (o := some (79)) dX7_takesBan_85 rfl fX7_35 (hs _ _ rfl) rfl (hr _ _ rfl) ?_
      refine x_ic (q := 89) dX7_takesBan_88 rfl rfl ?_
      refine x_ic (q := 90) dX7_takesBan_89 rfl rfl ?_
      refine x_iast (q := 91) dX7_takesBan_90 rfl (hs _ _ rfl) (by omega) (by omega) ?_
      refine x_al_n (q := 92) dX7_takesBan_91 rfl rfl ?_
      refine x_ic (q := 93) dX7_takesBan_92 rfl rfl ?_
      refine x_ic (q := 94) dX7_takesBan_93 rfl rfl ?_
      refine x_V (q := 97) (ci := 7) dX7_takesBan_94 rfl kX7_takesBan_126 (m_takesNumber hs hr (hT.xf ((xf1.trans xf4).up79 _ _)) (a := b4 + 1) (by omega) (by rw [up_n _ _ _ (by decide), p4]; omega) (by omega) (by decide)) rfl rfl (hs _ _ rfl) (by decide) rfl (Nat.le_of_ble_eq_true rfl) ⟨rfl, rfl⟩ ⟨Nat.zero_le _, Nat.zero_le _⟩ (fun r1 h1 hp => ?_)
      obtain ⟨b5, z5, u5, rfl, rfl, hk5, xf5, n5, hy5, hx5⟩ := hp
      have hb5 := hk5.2.1
      have hB3 := Bd_sk hk5 hB2
      refine x_if_ne (t := 102) (q := 100) dX7_takesBan_97 rfl rfl (fun c_97 => ?_) (fun c_97 => ?_)
      · skip
        obtain ⟨y1, y2, y3, y4, y5⟩ := hy5 (b2i_n0.mp c_97)
        have hP3 : parse t n = cr t n (b5 + 1) (7, false, false, 1, fgA t n (b5 : Int) 1 3, 3, 1, 2) := by rw [hP2, cr_sk hk5]; exact cr_some y1 (hk5.2.2.2 y1) hB3 (by rw [stT_3, if_neg y2])
        refine x_al_n (q := 103) dX7_takesBan_102 rfl rfl ?_
        refine x_getR (q := 106) (o := some (79)) dX7_takesBan_103 rfl fX7_35 (hs _ _ rfl) rfl (hr _ _ rfl) ?_
        refine x_ic (q := 107) dX7_takesBan_106 rfl rfl ?_
        refine x_al_n (q := 108) dX7_takesBan_107 rfl rfl ?_
        refine x_getIe (q := 111) (z := fgA t n (b5 : Int) 1 3) dX7_takesBan_108 rfl fX7_120 (hs _ _ rfl) rfl (y3) ?_
        refine x_iast (q := 112) dX7_takesBan_111 rfl (hs _ _ rfl) (by omega) (by omega) ?_
        refine x_al_n (q := 113) dX7_takesBan_112 rfl rfl ?_
        refine x_getR (q := 116) (o := some (79)) dX7_takesBan_113 rfl fX7_35 (hs _ _ rfl) rfl (hr _ _ rfl) ?_
        refine x_ic (q := 117) dX7_takesBan_116 rfl rfl ?_
        refine x_ic (q := 118) dX7_takesBan_117 rfl rfl ?_
        refine x_iast (q := 119) dX7_takesBan_118 rfl (hs _ _ rfl) (by omega) (by omega) ?_
        refine x_ic (q := 120) dX7_takesBan_119 rfl rfl ?_
        exact x_zret dX7_takesBan_120 rfl (.inr rfl) rfl (Nat.zero_le _) ⟨true, _, rfl, rfl, ((((xf1.trans xf4).up79 _ _).trans xf5).up79 _ _).up79 _ _, by rw [up_at, if_neg (by decide), up_at, if_neg (by decide), n5, up_at, if_neg (by decide), n4, n1], by rw [up_at, if_neg (by decide), up_at, if_neg (by decide), n5, up_at, if_neg (by decide), n4, n1], fun _ => ⟨b5 + 1, 1, fgA t n (b5 : Int) 1 3, 3, by omega, y5, by rw [up_n _ _ _ (by decide), up_n _ _ _ (by decide), y4]; omega, hP3, by rw [up_at, if_neg (by decide), up_at, if_neg (by decide), n5, up_at, if_pos (by decide)], by rw [up_at, if_neg (by decide), up_at, if_pos (by decide)]; rfl, by rw [up_at, if_pos (by decide)]; rfl⟩, (fun h => by cases h)⟩
      · skip
        have hzf := hx5 (b2i_0.mp c_97)
        have hf : (parse t n).1 = (b5 : Int) := by rw [hP2, cr_sk hk5]; exact cr_no hk5 hB3 (by show ¬ (3 : Nat) = 8; decide) (fun _ => by rw [stT_3, if_pos hzf.1])
        refine x_ic (q := 101) dX7_takesBan_100 rfl rfl ?_
        exact x_zret dX7_takesBan_101 rfl (.inl rfl) rfl (Nat.zero_le _) ⟨false, _, rfl, rfl, ((xf1.trans xf4).up79 _ _).trans xf5, by rw [n5, up_at, if_neg (by decide), n4, n1], by rw [n5, up_at, if_neg (by decide), n4, n1], (fun h => by cases h), fun _ => ⟨by rw [hf]; omega, by rw [hf]; exact hzf.2⟩⟩
  · skip
    have hzz := b2i_n0.mp c_6
    rw [hzz, if_pos rfl] at p1
    rw [hz1] at hzz
    have hl1 := of_decide_eq_true hzz
    have hL1 : ltr t n (b1 : Int) = 114 := by rw [ltr_at hl1.1]; exact hl1.2
    have hP2 : parse t n = cr t n (b1 + 1) (1, false, false, 0, 1, 3, 1, 2) := hP1.trans (cr_some hl1.1 (by rw [hL1]; decide) hB1 (by show stT t n (b1 : Int) (0, false, false, 0, 1, 3, 1, 2) = _; rw [stT_0, if_pos hL1]))
    have hB2 : Bd t n (b1 + 1) := Bd_l (by unfold figB; rw [hL1]; rfl)
    refine x_al_n (q := 10) dX7_takesBan_9 rfl rfl ?_
    refine x_getR (q := 13) (o := some (79)) dX7_takesBan_10 rfl fX7_35 (hs _ _ rfl) rfl (hr _ _ rfl) ?_
    refine x_ic (q := 14) dX7_takesBan_13 rfl rfl ?_
    refine x_ic (q := 15) dX7_takesBan_14 rfl rfl ?_
    refine x_iast (q := 16) dX7_takesBan_15 rfl (hs _ _ rfl) (by omega) (by omega) ?_
    refine x_al_n (q := 17) dX7_takesBan_16 rfl rfl ?_
    refine x_ic (q := 18) dX7_takesBan_17 rfl rfl ?_
    refine x_ic (q := 19) dX7_takesBan_18 rfl rfl ?_
    refine x_V (q := 22) (ci := 7) dX7_takesBan_19 rfl kX7_takesBan_126 (m_takesNumber hs hr (hT.xf (xf1.up79 _ _)) (a := b1 + 1) (by omega) (by rw [up_n _ _ _ (by decide), p1]; omega) (by omega) (by decide)) rfl rfl (hs _ _ rfl) (by decide) rfl (Nat.le_of_ble_eq_true rfl) ⟨rfl, rfl⟩ ⟨Nat.zero_le _, Nat.zero_le _⟩ (fun r1 h1 hp => ?_)
    obtain ⟨b2, z2, u2, rfl, rfl, hk2, xf2, n2, hy2, hx2⟩ := hp
    have hb2 := hk2.2.1
    have hB3 := Bd_sk hk2 hB2
    refine x_if_ne (t := 27) (q := 25) dX7_takesBan_22 rfl rfl (fun c_22 => ?_) (fun c_22 => ?_)
    · skip
      obtain ⟨y1, y2, y3, y4, y5⟩ := hy2 (b2i_n0.mp c_22)
      have hfr := fgA_rng y2
      have hP3 : parse t n = cr t n (b2 + 1) (2, false, false, 0, fgA t n (b2 : Int) 0 3, 3, 1, 2) := by rw [hP2, cr_sk hk2]; exact cr_some y1 (hk2.2.2.2 y1) hB3 (by rw [stT_1, if_neg y2])
      refine x_al_n (q := 28) dX7_takesBan_27 rfl rfl ?_
      refine x_getR (q := 31) (o := some (79)) dX7_takesBan_28 rfl fX7_35 (hs _ _ rfl) rfl (hr _ _ rfl) ?_
      refine x_ic (q := 32) dX7_takesBan_31 rfl rfl ?_
      refine x_al_n (q := 33) dX7_takesBan_32 rfl rfl ?_
      refine x_getIe (q := 36) (z := fgA t n (b2 : Int) 0 3) dX7_takesBan_33 rfl fX7_120 (hs _ _ rfl) rfl (y3) ?_
      refine x_iast (q := 37) dX7_takesBan_36 rfl (hs _ _ rfl) (by omega) (by omega) ?_
      refine x_al_n (q := 38) dX7_takesBan_37 rfl rfl ?_
      refine x_al_n (q := 39) dX7_takesBan_38 rfl rfl ?_
      refine x_getIe (q := 42) (z := fgA t n (b2 : Int) 0 3) dX7_takesBan_39 rfl fX7_120 (hs _ _ rfl) rfl (by rw [up_n _ _ _ (by decide)]; exact y3) ?_
      refine x_ic (q := 43) dX7_takesBan_42 rfl rfl ?_
      refine x_ic_le (t := 53) (q := 46) dX7_takesBan_43 rfl rfl (fun c_43 => ?_) (fun c_43 => ?_)
      · skip
        have hmx : mx1 (fgA t n (b2 : Int) 0 3) = 1 := by unfold mx1; split <;> omega
        have hfe : ∀ b : Int, fgA t n b 1 5 = fgA t n b (mx1 (fgA t n (b2 : Int) 0 3)) 5 := fun b => by rw [hmx]
        refine x_ic (q := 54) dX7_takesBan_53 rfl rfl ?_
        refine x_ic (q := 55) dX7_takesBan_54 rfl rfl ?_
        refine x_V (q := 58) (ci := 7) dX7_takesBan_55 rfl kX7_takesBan_126 (m_takesNumber hs hr (hT.xf (((xf1.up79 _ _).trans xf2).up79 _ _)) (a := b2 + 1) (by omega) (by rw [up_n _ _ _ (by decide), y4]; omega) (by omega) (by decide)) rfl rfl (hs _ _ rfl) (by decide) rfl (Nat.le_of_ble_eq_true rfl) ⟨rfl, rfl⟩ ⟨Nat.zero_le _, Nat.zero_le _⟩ (fun r1 h1 hp => ?_)
        obtain ⟨b3, z3, u3, rfl, rfl, hk3, xf3, n3, hy3, hx3⟩ := hp
        have hb3 := hk3.2.1
        have hB4 := Bd_sk hk3 y5
        rw [hfe] at hy3 hx3
        refine x_if_ne (t := 63) (q := 61) dX7_takesBan_58 rfl rfl (fun c_58 => ?_) (fun c_58 => ?_)
        · skip
          obtain ⟨w1, w2, w3, w4, w5⟩ := hy3 (b2i_n0.mp c_58)
          have hP4 : parse t n = cr t n (b3 + 1) (7, false, false, 0, fgA t n (b2 : Int) 0 3, fgA t n (b3 : Int) (mx1 (fgA t n (b2 : Int) 0 3)) 5, 1, 2) := by rw [hP3, cr_sk hk3]; exact cr_some w1 (hk3.2.2.2 w1) hB4 (by rw [stT_2, if_neg w2])
          refine x_al_n (q := 64) dX7_takesBan_63 rfl rfl ?_
          refine x_getR (q := 67) (o := some (79)) dX7_takesBan_64 rfl fX7_35 (hs _ _ rfl) rfl (hr _ _ rfl) ?_
          refine x_ic (q := 68) dX7_takesBan_67 rfl rfl ?_
          refine x_al_n (q := 69) dX7_takesBan_68 rfl rfl ?_
          refine x_getIe (q := 72) (z := fgA t n (b3 : Int) (mx1 (fgA t n (b2 : Int) 0 3)) 5) dX7_takesBan_69 rfl fX7_120 (hs _ _ rfl) rfl (w3) ?_
          refine x_iast (q := 73) dX7_takesBan_72 rfl (hs _ _ rfl) (by omega) (by omega) ?_
          refine x_ic (q := 74) dX7_takesBan_73 rfl rfl ?_
          exact x_zret dX7_takesBan_74 rfl (.inr rfl) rfl (Nat.zero_le _) ⟨true, _, rfl, rfl, ((((xf1.up79 _ _).trans xf2).up79 _ _).trans xf3).up79 _ _, by rw [up_at, if_neg (by decide), n3, up_at, if_neg (by decide), n2, up_at, if_neg (by decide), n1], by rw [up_at, if_neg (by decide), n3, up_at, if_neg (by decide), n2, up_at, if_neg (by decide), n1], fun _ => ⟨b3 + 1, 0, fgA t n (b2 : Int) 0 3, fgA t n (b3 : Int) (mx1 (fgA t n (b2 : Int) 0 3)) 5, by omega, w5, by rw [up_n _ _ _ (by decide), w4]; omega, hP4, by rw [up_at, if_neg (by decide), n3, up_at, if_neg (by decide), n2, up_at, if_pos (by decide)], by rw [up_at, if_neg (by decide), n3, up_at, if_pos (by decide)]; rfl, by rw [up_at, if_pos (by decide)]; rfl⟩, (fun h => by cases h)⟩
        · skip
          have hzf := hx3 (b2i_0.mp c_58)
          have hf : (parse t n).1 = (b3 : Int) := by rw [hP3, cr_sk hk3]; exact cr_no hk3 hB4 (by show ¬ (2 : Nat) = 8; decide) (fun _ => by rw [stT_2, if_pos hzf.1])
          refine x_ic (q := 62) dX7_takesBan_61 rfl rfl ?_
          exact x_zret dX7_takesBan_62 rfl (.inl rfl) rfl (Nat.zero_le _) ⟨false, _, rfl, rfl, (((xf1.up79 _ _).trans xf2).up79 _ _).trans xf3, by rw [n3, up_at, if_neg (by decide), n2, up_at, if_neg (by decide), n1], by rw [n3, up_at, if_neg (by decide), n2, up_at, if_neg (by decide), n1], (fun h => by cases h), fun _ => ⟨by rw [hf]; omega, by rw [hf]; exact hzf.2⟩⟩
      · skip
        have hmx : mx1 (fgA t n (b2 : Int) 0 3) = fgA t n (b2 : Int) 0 3 := by unfold mx1; rw [if_neg (by omega)]
        have hfe : ∀ b : Int, fgA t n b (fgA t n (b2 : Int) 0 3) 5 = fgA t n b (mx1 (fgA t n (b2 : Int) 0 3)) 5 := fun b => by rw [hmx]
        refine x_al_n (q := 47) dX7_takesBan_46 rfl rfl ?_
        refine x_getIe (q := 50) (z := fgA t n (b2 : Int) 0 3) dX7_takesBan_47 rfl fX7_120 (hs _ _ rfl) rfl (by rw [up_n _ _ _ (by decide)]; exact y3) ?_
        refine x_goto (t := 54) dX7_takesBan_50 rfl ?_
        refine x_ic (q := 55) dX7_takesBan_54 rfl rfl ?_
        refine x_V (q := 58) (ci := 7) dX7_takesBan_55 rfl kX7_takesBan_126 (m_takesNumber hs hr (hT.xf (((xf1.up79 _ _).trans xf2).up79 _ _)) (a := b2 + 1) (by omega) (by rw [up_n _ _ _ (by decide), y4]; omega) (by omega) (by decide)) rfl rfl (hs _ _ rfl) (by decide) rfl (Nat.le_of_ble_eq_true rfl) ⟨rfl, rfl⟩ ⟨Nat.zero_le _, Nat.zero_le _⟩ (fun r1 h1 hp => ?_)
        obtain ⟨b3, z3, u3, rfl, rfl, hk3, xf3, n3, hy3, hx3⟩ := hp
        have hb3 := hk3.2.1
        have hB4 := Bd_sk hk3 y5
        rw [hfe] at hy3 hx3
        refine x_if_ne (t := 63) (q := 61) dX7_takesBan_58 rfl rfl (fun c_58 => ?_) (fun c_58 => ?_)
        · skip
          obtain ⟨w1, w2, w3, w4, w5⟩ := hy3 (b2i_n0.mp c_58)
          have hP4 : parse t n = cr t n (b3 + 1) (7, false, false, 0, fgA t n (b2 : Int) 0 3, fgA t n (b3 : Int) (mx1 (fgA t n (b2 : Int) 0 3)) 5, 1, 2) := by rw [hP3, cr_sk hk3]; exact cr_some w1 (hk3.2.2.2 w1) hB4 (by rw [stT_2, if_neg w2])
          refine x_al_n (q := 64) dX7_takesBan_63 rfl rfl ?_
          refine x_getR (q := 67) (o := some (79)) dX7_takesBan_64 rfl fX7_35 (hs _ _ rfl) rfl (hr _ _ rfl) ?_
          refine x_ic (q := 68) dX7_takesBan_67 rfl rfl ?_
          refine x_al_n (q := 69) dX7_takesBan_68 rfl rfl ?_
          refine x_getIe (q := 72) (z := fgA t n (b3 : Int) (mx1 (fgA t n (b2 : Int) 0 3)) 5) dX7_takesBan_69 rfl fX7_120 (hs _ _ rfl) rfl (w3) ?_
          refine x_iast (q := 73) dX7_takesBan_72 rfl (hs _ _ rfl) (by omega) (by omega) ?_
          refine x_ic (q := 74) dX7_takesBan_73 rfl rfl ?_
          exact x_zret dX7_takesBan_74 rfl (.inr rfl) rfl (Nat.zero_le _) ⟨true, _, rfl, rfl, ((((xf1.up79 _ _).trans xf2).up79 _ _).trans xf3).up79 _ _, by rw [up_at, if_neg (by decide), n3, up_at, if_neg (by decide), n2, up_at, if_neg (by decide), n1], by rw [up_at, if_neg (by decide), n3, up_at, if_neg (by decide), n2, up_at, if_neg (by decide), n1], fun _ => ⟨b3 + 1, 0, fgA t n (b2 : Int) 0 3, fgA t n (b3 : Int) (mx1 (fgA t n (b2 : Int) 0 3)) 5, by omega, w5, by rw [up_n _ _ _ (by decide), w4]; omega, hP4, by rw [up_at, if_neg (by decide), n3, up_at, if_neg (by decide), n2, up_at, if_pos (by decide)], by rw [up_at, if_neg (by decide), n3, up_at, if_pos (by decide)]; rfl, by rw [up_at, if_pos (by decide)]; rfl⟩, (fun h => by cases h)⟩
        · skip
          have hzf := hx3 (b2i_0.mp c_58)
          have hf : (parse t n).1 = (b3 : Int) := by rw [hP3, cr_sk hk3]; exact cr_no hk3 hB4 (by show ¬ (2 : Nat) = 8; decide) (fun _ => by rw [stT_2, if_pos hzf.1])
          refine x_ic (q := 62) dX7_takesBan_61 rfl rfl ?_
          exact x_zret dX7_takesBan_62 rfl (.inl rfl) rfl (Nat.zero_le _) ⟨false, _, rfl, rfl, (((xf1.up79 _ _).trans xf2).up79 _ _).trans xf3, by rw [n3, up_at, if_neg (by decide), n2, up_at, if_neg (by decide), n1], by rw [n3, up_at, if_neg (by decide), n2, up_at, if_neg (by decide), n1], (fun h => by cases h), fun _ => ⟨by rw [hf]; omega, by rw [hf]; exact hzf.2⟩⟩
    · skip
      have hzf := hx2 (b2i_0.mp c_22)
      have hf : (parse t n).1 = (b2 : Int) := by rw [hP2, cr_sk hk2]; exact cr_no hk2 hB3 (by show ¬ (1 : Nat) = 8; decide) (fun _ => by rw [stT_1, if_pos hzf.1])
      refine x_ic (q := 26) dX7_takesBan_25 rfl rfl ?_
      exact x_zret dX7_takesBan_26 rfl (.inl rfl) rfl (Nat.zero_le _) ⟨false, _, rfl, rfl, (xf1.up79 _ _).trans xf2, by rw [n2, up_at, if_neg (by decide), n1], by rw [n2, up_at, if_neg (by decide), n1], (fun h => by cases h), fun _ => ⟨by rw [hf]; omega, by rw [hf]; exact hzf.2⟩⟩
set_option maxHeartbeats 4000000 in
set_option maxRecDepth 100000 in
theorem m_takesAll (hs : ExtM sh) (hr : RokM rf) (hT : TM v t n) : Cv g mX7_takesAll [aR 70] (sh, rf, v) (fun r h1 => ∃ (z : Bool) (u : Nat → Nat → Int), r = some (aI (b2i z)) ∧ h1 = (sh, rf, u) ∧ XF v u ∧ (z = true → (parse t n).1 = -1 ∧ NX u (parse t n).2) ∧ (z = false → ¬ (parse t n).1 = -1 ∧ u 70 13 = (parse t n).1)) := by
  have hn := hT.2.1
  have loop : ∀ (k a : Nat) (p q : Bool) (so lo hi P Q : Int) (u : Nat → Nat → Int), n - a ≤ k → (a ≤ n → Bd t n a → XF v u → u 70 13 = (a : Int) → parse t n = cr t n a (8, p, q, so, lo, hi, P, Q) → NX u (so, lo, hi, P, Q) → Wv g mX7_takesAll 0 0 41 [some (aR 70), some (aI (b2i p)), some (aI (b2i q))] [] (sh, rf, u) (fun r h1 => ∃ (z : Bool) (u : Nat → Nat → Int), r = some (aI (b2i z)) ∧ h1 = (sh, rf, u) ∧ XF v u ∧ (z = true → (parse t n).1 = -1 ∧ NX u (parse t n).2) ∧ (z = false → ¬ (parse t n).1 = -1 ∧ u 70 13 = (parse t n).1))) := by
    intro k
    induction k using Nat.strongRecOn with
    | _ k ih =>
    intro a p q so lo hi P Q u hka ha hB xf0 hsp hP hNX
    have at129 : ∀ (y : Nat → Nat → Int) (a2 : Nat) (p q : Bool) (P Q : Int), a < a2 → a2 ≤ n → Bd t n a2 → XF v y → y 70 13 = (a2 : Int) → parse t n = cr t n a2 (7, p, q, so, lo, hi, P, Q) → NX y (so, lo, hi, P, Q) → Wv g mX7_takesAll 0 0 129 [some (aR 70), some (aI (b2i p)), some (aI (b2i q))] [] (sh, rf, y) (fun r h1 => ∃ (z : Bool) (u : Nat → Nat → Int), r = some (aI (b2i z)) ∧ h1 = (sh, rf, u) ∧ XF v u ∧ (z = true → (parse t n).1 = -1 ∧ NX u (parse t n).2) ∧ (z = false → ¬ (parse t n).1 = -1 ∧ u 70 13 = (parse t n).1)) := by
      intro y a2 p q P Q h1 h2 hB2 xf1 hs2 hP2 hN2
      refine x_al_n (q := 130) dX7_takesAll_129 rfl rfl ?_
      refine x_bi (q := 132) dX7_takesAll_130 rfl rfl ?_
      refine x_V (q := 135) (ci := 7) dX7_takesAll_132 rfl kX7_takesAll_123 (m_takes hs hr (hT.xf xf1) (a := a2) h2 hs2 (x := 59) (by decide)) rfl rfl (hs _ _ rfl) (by decide) rfl (Nat.le_of_ble_eq_true rfl) ⟨rfl, rfl⟩ ⟨Nat.zero_le _, Nat.zero_le _⟩ (fun r1 h1 hp => ?_)
      obtain ⟨b3, z3, u3, rfl, rfl, hk3, hz3, xf3, n3, t3, p3⟩ := hp
      have hb3 := hk3.2.1
      have hB3 := Bd_sk hk3 hB2
      refine x_if_ne (t := 41) (q := 138) dX7_takesAll_135 rfl rfl (fun c_135 => ?_) (fun c_135 => ?_)
      · skip
        have hzz := b2i_n0.mp c_135
        rw [hzz, if_pos rfl] at p3
        rw [hz3] at hzz
        have hl := of_decide_eq_true hzz
        have hL : ltr t n (b3 : Int) = 59 := by rw [ltr_at hl.1]; exact hl.2
        have hle := hk3.1
        refine ih (n - (b3 + 1)) (by omega) (b3 + 1) p q so lo hi P Q u3 (Nat.le_refl _) (by omega) (Bd_l (by unfold figB; rw [hL]; rfl)) (xf1.trans xf3) (by rw [p3]; omega) (by rw [hP2, cr_sk hk3]; exact cr_some hl.1 (by rw [hL]; decide) hB3 (by rw [stT_7, if_pos hL])) ⟨by rw [n3]; exact hN2.1, by rw [n3]; exact hN2.2.1, by rw [n3]; exact hN2.2.2.1, by rw [n3]; exact hN2.2.2.2.1, by rw [n3]; exact hN2.2.2.2.2⟩
      · skip
        have hzz := b2i_0.mp c_135
        rw [hzz, if_neg (by decide)] at p3
        rw [hz3] at hzz
        have hl := of_decide_eq_false hzz
        have hf : (parse t n).1 = (b3 : Int) := by rw [hP2, cr_sk hk3]; exact cr_no hk3 hB3 (by show ¬ (7 : Nat) = 8; decide) (fun hlt => by rw [stT_7, if_neg (fun q => hl ⟨hlt, by rw [← ltr_at (t := t) hlt]; exact q⟩)])
        refine x_ic (q := 139) dX7_takesAll_138 rfl rfl ?_
        exact x_zret dX7_takesAll_139 rfl (.inl rfl) rfl (Nat.zero_le _) ⟨false, _, rfl, rfl, xf1.trans xf3, (fun h => by cases h), fun _ => ⟨by rw [hf]; omega, by rw [hf]; exact p3⟩⟩
    have at88 : ∀ (y : Nat → Nat → Int) (b : Nat), SK t n a b → b < n → XF v y → y 70 13 = (b : Int) → y 79 = u 79 → ¬ (ltr t n (b : Int) = 112 ∧ p = false) → Wv g mX7_takesAll 0 0 88 [some (aR 70), some (aI (b2i p)), some (aI (b2i q))] [] (sh, rf, y) (fun r h1 => ∃ (z : Bool) (u : Nat → Nat → Int), r = some (aI (b2i z)) ∧ h1 = (sh, rf, u) ∧ XF v u ∧ (z = true → (parse t n).1 = -1 ∧ NX u (parse t n).2) ∧ (z = false → ¬ (parse t n).1 = -1 ∧ u 70 13 = (parse t n).1)) := by
      intro y b hk hbn xf1 hs2 hy79 hno
      have hBb := Bd_sk hk hB
      have hPb : parse t n = cr t n b (8, p, q, so, lo, hi, P, Q) := by rw [hP, cr_sk hk]
      have hle := hk.1
      refine x_il_n (q := 89) dX7_takesAll_88 rfl rfl ?_
      refine x_if_ne (t := 127) (q := 92) dX7_takesAll_89 rfl rfl (fun c_89 => ?_) (fun c_89 => ?_)
      · skip
        have hqt := b2i_n0.mp c_89
        have hf : (parse t n).1 = (b : Int) := by rw [hPb]; exact cr_nn hk hBb hbn (by rw [stT_8, if_neg hno, if_neg (fun z => by rw [hqt] at z; cases z.2)])
        refine x_ic (q := 128) dX7_takesAll_127 rfl rfl ?_
        first
        | exact x_zret dX7_takesAll_128 rfl (.inl rfl) rfl (Nat.zero_le _) ⟨false, _, rfl, rfl, xf1, (fun h => by cases h), fun _ => ⟨by rw [hf]; omega, by rw [hf]; exact hs2⟩⟩
        | exact x_zret dX7_takesAll_128 rfl (.inl rfl) rfl (Nat.zero_le _) ⟨false, _, rfl, rfl, xf1.trans xf3, (fun h => by cases h), fun _ => ⟨by rw [hf]; omega, by rw [hf]; exact p3⟩⟩
      · skip
        have hqf := b2i_0.mp c_89
        refine x_al_n (q := 93) dX7_takesAll_92 rfl rfl ?_
        refine x_bi (q := 95) dX7_takesAll_93 rfl rfl ?_
        refine x_V (q := 98) (ci := 7) dX7_takesAll_95 rfl kX7_takesAll_123 (m_takes hs hr (hT.xf xf1) (a := b) (by omega) hs2 (x := 113) (by decide)) rfl rfl (hs _ _ rfl) (by decide) rfl (Nat.le_of_ble_eq_true rfl) ⟨rfl, rfl⟩ ⟨Nat.zero_le _, Nat.zero_le _⟩ (fun r1 h1 hp => ?_)
        obtain ⟨b3, z3, u3, rfl, rfl, hk3, hz3, xf3, n3, t3, p3⟩ := hp
        have h3b := SK_fix hk hk3
        subst h3b
        refine x_if_eq (t := 127) (q := 101) dX7_takesAll_98 rfl rfl (fun c_98 => ?_) (fun c_98 => ?_)
        · skip
          have hzz := b2i_0.mp c_98
          rw [hzz, if_neg (by decide)] at p3
          rw [hz3] at hzz
          have hl := of_decide_eq_false hzz
          have hf : (parse t n).1 = (b3 : Int) := by rw [hPb]; exact cr_nn hk hBb hbn (by rw [stT_8, if_neg hno, if_neg (fun z => hl ⟨hbn, by rw [← ltr_at (t := t) hbn]; exact z.1⟩)])
          refine x_ic (q := 128) dX7_takesAll_127 rfl rfl ?_
          first
          | exact x_zret dX7_takesAll_128 rfl (.inl rfl) rfl (Nat.zero_le _) ⟨false, _, rfl, rfl, xf1, (fun h => by cases h), fun _ => ⟨by rw [hf]; omega, by rw [hf]; exact hs2⟩⟩
          | exact x_zret dX7_takesAll_128 rfl (.inl rfl) rfl (Nat.zero_le _) ⟨false, _, rfl, rfl, xf1.trans xf3, (fun h => by cases h), fun _ => ⟨by rw [hf]; omega, by rw [hf]; exact p3⟩⟩
        · skip
          have hzz := b2i_n0.mp c_98
          rw [hzz, if_pos rfl] at p3
          rw [hz3] at hzz
          have hl := of_decide_eq_true hzz
          have hL : ltr t n (b3 : Int) = 113 := by rw [ltr_at hl.1]; exact hl.2
          have hP2 : parse t n = cr t n (b3 + 1) (6, p, true, so, lo, hi, P, Q) := by rw [hPb]; exact cr_some hbn (by rw [hL]; decide) hBb (by rw [stT_8, if_neg hno, if_pos ⟨hL, hqf⟩])
          have hB2 : Bd t n (b3 + 1) := Bd_l (by unfold figB; rw [hL]; rfl)
          refine x_ic (q := 102) dX7_takesAll_101 rfl rfl ?_
          refine x_is2 (q := 103) dX7_takesAll_102 rfl rfl ?_
          refine x_al_n (q := 104) dX7_takesAll_103 rfl rfl ?_
          refine x_ic (q := 105) dX7_takesAll_104 rfl rfl ?_
          refine x_ic (q := 106) dX7_takesAll_105 rfl rfl ?_
          refine x_V (q := 109) (ci := 7) dX7_takesAll_106 rfl kX7_takesAll_126 (m_takesNumber hs hr (hT.xf (xf1.trans xf3)) (a := b3 + 1) (by omega) (by rw [p3]; omega) (by decide) (by decide)) rfl rfl (hs _ _ rfl) (by decide) rfl (Nat.le_of_ble_eq_true rfl) ⟨rfl, rfl⟩ ⟨Nat.zero_le _, Nat.zero_le _⟩ (fun r1 h1 hp => ?_)
          obtain ⟨b4, z4, u4, rfl, rfl, hk4, xf4, n4, hy4, hx4⟩ := hp
          have hb4 := hk4.2.1
          have hle4 := hk4.1
          have hB4 := Bd_sk hk4 hB2
          refine x_if_ne (t := 114) (q := 112) dX7_takesAll_109 rfl rfl (fun c_109 => ?_) (fun c_109 => ?_)
          · skip
            obtain ⟨y1, y2, y3, y4, y5⟩ := hy4 (b2i_n0.mp c_109)
            have hP3 : parse t n = cr t n (b4 + 1) (7, p, true, so, lo, hi, P, fgA t n (b4 : Int) 1 4) := by rw [hP2, cr_sk hk4]; exact cr_some y1 (hk4.2.2.2 y1) hB4 (by rw [stT_6, if_neg y2])
            refine x_al_n (q := 115) dX7_takesAll_114 rfl rfl ?_
            refine x_getR (q := 118) (o := some (79)) dX7_takesAll_115 rfl fX7_35 (hs _ _ rfl) rfl (hr _ _ rfl) ?_
            refine x_ic (q := 119) dX7_takesAll_118 rfl rfl ?_
            refine x_al_n (q := 120) dX7_takesAll_119 rfl rfl ?_
            refine x_getIe (q := 123) (z := fgA t n (b4 : Int) 1 4) dX7_takesAll_120 rfl fX7_120 (hs _ _ rfl) rfl (y3) ?_
            refine x_iast (q := 124) dX7_takesAll_123 rfl (hs _ _ rfl) (by omega) (by omega) ?_
            refine x_goto (t := 129) dX7_takesAll_124 rfl ?_
            refine at129 _ (b4 + 1) p true P (fgA t n (b4 : Int) 1 4) (by omega) (by omega) y5 (((xf1.trans xf3).trans xf4).up79 _ _) (by rw [up_n _ _ _ (by decide), y4]; omega) hP3 ⟨by rw [up_at, if_neg (by decide), n4, n3, hy79]; exact hNX.1, by rw [up_at, if_neg (by decide), n4, n3, hy79]; exact hNX.2.1, by rw [up_at, if_neg (by decide), n4, n3, hy79]; exact hNX.2.2.1, by rw [up_at, if_neg (by decide), n4, n3, hy79]; exact hNX.2.2.2.1, by rw [up_at, if_pos (by decide)]⟩
          · skip
            have hzf := hx4 (b2i_0.mp c_109)
            have hf : (parse t n).1 = (b4 : Int) := by rw [hP2, cr_sk hk4]; exact cr_no hk4 hB4 (by show ¬ (6 : Nat) = 8; decide) (fun _ => by rw [stT_6, if_pos hzf.1])
            refine x_ic (q := 113) dX7_takesAll_112 rfl rfl ?_
            exact x_zret dX7_takesAll_113 rfl (.inl rfl) rfl (Nat.zero_le _) ⟨false, _, rfl, rfl, (xf1.trans xf3).trans xf4, (fun h => by cases h), fun _ => ⟨by rw [hf]; omega, by rw [hf]; exact hzf.2⟩⟩
    refine x_al_n (q := 42) dX7_takesAll_41 rfl rfl ?_
    refine x_V (q := 45) (ci := 7) dX7_takesAll_42 rfl kX7_takesAll_113 (m_here hs hr (hT.xf xf0) ha hsp) rfl rfl (hs _ _ rfl) (by decide) rfl (Nat.le_of_ble_eq_true rfl) ⟨rfl, rfl⟩ ⟨Nat.zero_le _, Nat.zero_le _⟩ (fun r1 h1 hp => ?_)
    obtain ⟨b, hk, rfl, rfl⟩ := hp
    have hbn := hk.2.1
    have xf1 : XF v (up u 70 13 (b : Int)) := xf0.up70 (.inl rfl) _
    have hle := hk.1
    have hPb : parse t n = cr t n b (8, p, q, so, lo, hi, P, Q) := by rw [hP, cr_sk hk]
    have hBb := Bd_sk hk hB
    refine x_ic (q := 46) dX7_takesAll_45 rfl rfl ?_
    refine x_ic_eq (t := 140) (q := 49) dX7_takesAll_46 rfl rfl (fun c_46 => ?_) (fun c_46 => ?_)
    · skip
      have hbe : b = n := by
        by_cases e : b < n
        · rw [if_pos e] at c_46
          have := hT.2.2.2 b e
          omega
        · omega
      subst hbe
      have hPe : parse t b = (-1, so, lo, hi, P, Q) := by rw [hPb, cr_end]; rfl
      refine x_ic (q := 141) dX7_takesAll_140 rfl rfl ?_
      exact x_zret dX7_takesAll_141 rfl (.inr rfl) rfl (Nat.zero_le _) ⟨true, _, rfl, rfl, xf1, fun _ => ⟨by rw [hPe], by rw [hPe]; exact ⟨by rw [up_n _ _ _ (by decide)]; exact hNX.1, by rw [up_n _ _ _ (by decide)]; exact hNX.2.1, by rw [up_n _ _ _ (by decide)]; exact hNX.2.2.1, by rw [up_n _ _ _ (by decide)]; exact hNX.2.2.2.1, by rw [up_n _ _ _ (by decide)]; exact hNX.2.2.2.2⟩⟩, (fun h => by cases h)⟩
    · skip
      have hlt : b < n := by
        by_cases e : b < n
        · exact e
        · rw [if_neg e] at c_46; exact absurd rfl c_46
      refine x_il_n (q := 50) dX7_takesAll_49 rfl rfl ?_
      refine x_if_ne (t := 88) (q := 53) dX7_takesAll_50 rfl rfl (fun c_50 => ?_) (fun c_50 => ?_)
      · skip
        have hpt := b2i_n0.mp c_50
        exact at88 _ b hk hlt xf1 (by rw [up_at, if_pos rfl]) (up_n _ _ _ (by decide)) (fun z => by rw [hpt] at z; cases z.2)
      · skip
        have hpf := b2i_0.mp c_50
        refine x_al_n (q := 54) dX7_takesAll_53 rfl rfl ?_
        refine x_bi (q := 56) dX7_takesAll_54 rfl rfl ?_
        refine x_V (q := 59) (ci := 7) dX7_takesAll_56 rfl kX7_takesAll_123 (m_takes hs hr (hT.xf xf1) (a := b) hbn (by rw [up_at, if_pos rfl]) (x := 112) (by decide)) rfl rfl (hs _ _ rfl) (by decide) rfl (Nat.le_of_ble_eq_true rfl) ⟨rfl, rfl⟩ ⟨Nat.zero_le _, Nat.zero_le _⟩ (fun r1 h1 hp => ?_)
        obtain ⟨b3, z3, u3, rfl, rfl, hk3, hz3, xf3, n3, t3, p3⟩ := hp
        have h3b := SK_fix hk hk3
        subst h3b
        refine x_if_eq (t := 88) (q := 62) dX7_takesAll_59 rfl rfl (fun c_59 => ?_) (fun c_59 => ?_)
        · skip
          have hzz := b2i_0.mp c_59
          rw [hzz, if_neg (by decide)] at p3
          rw [hz3] at hzz
          have hl := of_decide_eq_false hzz
          exact at88 _ b3 hk hlt (xf1.trans xf3) p3 (by rw [n3, up_n _ _ _ (by decide)]) (fun z => hl ⟨hlt, by rw [← ltr_at (t := t) hlt]; exact z.1⟩)
        · skip
          have hzz := b2i_n0.mp c_59
          rw [hzz, if_pos rfl] at p3
          rw [hz3] at hzz
          have hl := of_decide_eq_true hzz
          have hL : ltr t n (b3 : Int) = 112 := by rw [ltr_at hl.1]; exact hl.2
          have hP2 : parse t n = cr t n (b3 + 1) (5, true, q, so, lo, hi, P, Q) := by rw [hPb]; exact cr_some hlt (by rw [hL]; decide) hBb (by rw [stT_8, if_pos ⟨hL, hpf⟩])
          have hB2 : Bd t n (b3 + 1) := Bd_l (by unfold figB; rw [hL]; rfl)
          refine x_ic (q := 63) dX7_takesAll_62 rfl rfl ?_
          refine x_is1 (q := 64) dX7_takesAll_63 rfl rfl ?_
          refine x_al_n (q := 65) dX7_takesAll_64 rfl rfl ?_
          refine x_ic (q := 66) dX7_takesAll_65 rfl rfl ?_
          refine x_ic (q := 67) dX7_takesAll_66 rfl rfl ?_
          refine x_V (q := 70) (ci := 7) dX7_takesAll_67 rfl kX7_takesAll_126 (m_takesNumber hs hr (hT.xf (xf1.trans xf3)) (a := b3 + 1) (by omega) (by rw [p3]; omega) (by decide) (by decide)) rfl rfl (hs _ _ rfl) (by decide) rfl (Nat.le_of_ble_eq_true rfl) ⟨rfl, rfl⟩ ⟨Nat.zero_le _, Nat.zero_le _⟩ (fun r1 h1 hp => ?_)
          obtain ⟨b4, z4, u4, rfl, rfl, hk4, xf4, n4, hy4, hx4⟩ := hp
          have hb4 := hk4.2.1
          have hle4 := hk4.1
          have hB4 := Bd_sk hk4 hB2
          refine x_if_ne (t := 75) (q := 73) dX7_takesAll_70 rfl rfl (fun c_70 => ?_) (fun c_70 => ?_)
          · skip
            obtain ⟨y1, y2, y3, y4, y5⟩ := hy4 (b2i_n0.mp c_70)
            have hP3 : parse t n = cr t n (b4 + 1) (7, true, q, so, lo, hi, fgA t n (b4 : Int) 1 3, Q) := by rw [hP2, cr_sk hk4]; exact cr_some y1 (hk4.2.2.2 y1) hB4 (by rw [stT_5, if_neg y2])
            refine x_al_n (q := 76) dX7_takesAll_75 rfl rfl ?_
            refine x_getR (q := 79) (o := some (79)) dX7_takesAll_76 rfl fX7_35 (hs _ _ rfl) rfl (hr _ _ rfl) ?_
            refine x_ic (q := 80) dX7_takesAll_79 rfl rfl ?_
            refine x_al_n (q := 81) dX7_takesAll_80 rfl rfl ?_
            refine x_getIe (q := 84) (z := fgA t n (b4 : Int) 1 3) dX7_takesAll_81 rfl fX7_120 (hs _ _ rfl) rfl (y3) ?_
            refine x_iast (q := 85) dX7_takesAll_84 rfl (hs _ _ rfl) (by omega) (by omega) ?_
            refine x_goto (t := 129) dX7_takesAll_85 rfl ?_
            refine at129 _ (b4 + 1) true q (fgA t n (b4 : Int) 1 3) Q (by omega) (by omega) y5 (((xf1.trans xf3).trans xf4).up79 _ _) (by rw [up_n _ _ _ (by decide), y4]; omega) hP3 ⟨by rw [up_at, if_neg (by decide), n4, n3, up_n _ _ _ (by decide)]; exact hNX.1, by rw [up_at, if_neg (by decide), n4, n3, up_n _ _ _ (by decide)]; exact hNX.2.1, by rw [up_at, if_neg (by decide), n4, n3, up_n _ _ _ (by decide)]; exact hNX.2.2.1, by rw [up_at, if_pos (by decide)], by rw [up_at, if_neg (by decide), n4, n3, up_n _ _ _ (by decide)]; exact hNX.2.2.2.2⟩
          · skip
            have hzf := hx4 (b2i_0.mp c_70)
            have hf : (parse t n).1 = (b4 : Int) := by rw [hP2, cr_sk hk4]; exact cr_no hk4 hB4 (by show ¬ (5 : Nat) = 8; decide) (fun _ => by rw [stT_5, if_pos hzf.1])
            refine x_ic (q := 74) dX7_takesAll_73 rfl rfl ?_
            exact x_zret dX7_takesAll_74 rfl (.inl rfl) rfl (Nat.zero_le _) ⟨false, _, rfl, rfl, (xf1.trans xf3).trans xf4, (fun h => by cases h), fun _ => ⟨by rw [hf]; omega, by rw [hf]; exact hzf.2⟩⟩
  refine x_entry (ls := [some (aR 70), none, none]) rfl rfl (Nat.le_of_ble_eq_true rfl) ?_
  refine x_al_n (q := 1) dX7_takesAll_0 rfl rfl ?_
  refine x_ic (q := 2) dX7_takesAll_1 rfl rfl ?_
  refine x_putI (q := 5) dX7_takesAll_2 rfl fX7_106 (hs _ _ rfl) (.inl rfl) rfl ?_
  refine x_al_n (q := 6) dX7_takesAll_5 rfl rfl ?_
  refine x_getR (q := 9) (o := some (79)) dX7_takesAll_6 rfl fX7_35 (hs _ _ rfl) rfl (hr _ _ rfl) ?_
  refine x_ic (q := 10) dX7_takesAll_9 rfl rfl ?_
  refine x_ic (q := 11) dX7_takesAll_10 rfl rfl ?_
  refine x_iast (q := 12) dX7_takesAll_11 rfl (hs _ _ rfl) (by omega) (by omega) ?_
  refine x_al_n (q := 13) dX7_takesAll_12 rfl rfl ?_
  refine x_getR (q := 16) (o := some (79)) dX7_takesAll_13 rfl fX7_35 (hs _ _ rfl) rfl (hr _ _ rfl) ?_
  refine x_ic (q := 17) dX7_takesAll_16 rfl rfl ?_
  refine x_ic (q := 18) dX7_takesAll_17 rfl rfl ?_
  refine x_iast (q := 19) dX7_takesAll_18 rfl (hs _ _ rfl) (by omega) (by omega) ?_
  refine x_al_n (q := 20) dX7_takesAll_19 rfl rfl ?_
  refine x_V (q := 23) (ci := 7) dX7_takesAll_20 rfl kX7_takesAll_134 (m_takesBan hs hr (hT.xf ((((XF.refl v).up70 (.inl rfl) _).up79 _ _).up79 _ _)) (by rw [up_n _ _ _ (by decide), up_n _ _ _ (by decide), up_at, if_pos rfl])) rfl rfl (hs _ _ rfl) (by decide) rfl (Nat.le_of_ble_eq_true rfl) ⟨rfl, rfl⟩ ⟨Nat.zero_le _, Nat.zero_le _⟩ (fun r1 h1 hp => ?_)
  obtain ⟨z1, u1, rfl, rfl, xf1, g3, g4, hy1, hx1⟩ := hp
  have xf1 := XF.trans ((((XF.refl v).up70 (.inl rfl) _).up79 _ _).up79 _ _) xf1
  rw [up_at, if_neg (by decide), up_at, if_pos (by decide)] at g3
  rw [up_at, if_pos (by decide)] at g4
  refine x_if_eq (t := 35) (q := 26) dX7_takesAll_23 rfl rfl (fun c_23 => ?_) (fun c_23 => ?_)
  · skip
    have hzf := hx1 (b2i_0.mp c_23)
    refine x_ic (q := 36) dX7_takesAll_35 rfl rfl ?_
    first
    | exact x_zret dX7_takesAll_36 rfl (.inl rfl) rfl (Nat.zero_le _) ⟨false, _, rfl, rfl, xf1, (fun h => by cases h), fun _ => hzf⟩
    | exact x_zret dX7_takesAll_36 rfl (.inl rfl) rfl (Nat.zero_le _) ⟨false, _, rfl, rfl, xf1.trans xf3, (fun h => by cases h), fun _ => ⟨by rw [hf]; omega, by rw [hf]; exact p3⟩⟩
  · skip
    obtain ⟨a, so, lo, hi, w1, w2, w3, w4, w5, w6, w7⟩ := hy1 (b2i_n0.mp c_23)
    refine x_al_n (q := 27) dX7_takesAll_26 rfl rfl ?_
    refine x_bi (q := 29) dX7_takesAll_27 rfl rfl ?_
    refine x_V (q := 32) (ci := 7) dX7_takesAll_29 rfl kX7_takesAll_123 (m_takes hs hr (hT.xf xf1) (a := a) w1 w3 (x := 59) (by decide)) rfl rfl (hs _ _ rfl) (by decide) rfl (Nat.le_of_ble_eq_true rfl) ⟨rfl, rfl⟩ ⟨Nat.zero_le _, Nat.zero_le _⟩ (fun r1 h1 hp => ?_)
    obtain ⟨b3, z3, u3, rfl, rfl, hk3, hz3, xf3, n3, t3, p3⟩ := hp
    have hb3 := hk3.2.1
    have hB3 := Bd_sk hk3 w2
    refine x_if_ne (t := 37) (q := 35) dX7_takesAll_32 rfl rfl (fun c_32 => ?_) (fun c_32 => ?_)
    · skip
      have hzz := b2i_n0.mp c_32
      rw [hzz, if_pos rfl] at p3
      rw [hz3] at hzz
      have hl := of_decide_eq_true hzz
      have hL : ltr t n (b3 : Int) = 59 := by rw [ltr_at hl.1]; exact hl.2
      refine x_ic (q := 38) dX7_takesAll_37 rfl rfl ?_
      refine x_is1 (q := 39) dX7_takesAll_38 rfl rfl ?_
      refine x_ic (q := 40) dX7_takesAll_39 rfl rfl ?_
      refine x_is2 (q := 41) dX7_takesAll_40 rfl rfl ?_
      exact loop n (b3 + 1) false false so lo hi 1 2 u3 (by omega) (by omega) (Bd_l (by unfold figB; rw [hL]; rfl)) (xf1.trans xf3) (by rw [p3]; omega) (by rw [w4, cr_sk hk3]; exact cr_some hl.1 (by rw [hL]; decide) hB3 (by rw [stT_7, if_pos hL])) ⟨by rw [n3]; exact w5, by rw [n3]; exact w6, by rw [n3]; exact w7, by rw [n3]; exact g3, by rw [n3]; exact g4⟩
    · skip
      have hzz := b2i_0.mp c_32
      rw [hzz, if_neg (by decide)] at p3
      rw [hz3] at hzz
      have hl := of_decide_eq_false hzz
      have hf : (parse t n).1 = (b3 : Int) := by rw [w4, cr_sk hk3]; exact cr_no hk3 hB3 (by show ¬ (7 : Nat) = 8; decide) (fun hlt => by rw [stT_7, if_neg (fun q => hl ⟨hlt, by rw [← ltr_at (t := t) hlt]; exact q⟩)])
      refine x_ic (q := 36) dX7_takesAll_35 rfl rfl ?_
      first
      | exact x_zret dX7_takesAll_36 rfl (.inl rfl) rfl (Nat.zero_le _) ⟨false, _, rfl, rfl, xf1, (fun h => by cases h), fun _ => hzf⟩
      | exact x_zret dX7_takesAll_36 rfl (.inl rfl) rfl (Nat.zero_le _) ⟨false, _, rfl, rfl, xf1.trans xf3, (fun h => by cases h), fun _ => ⟨by rw [hf]; omega, by rw [hf]; exact p3⟩⟩
set_option maxHeartbeats 4000000 in
set_option maxRecDepth 100000 in
theorem m_tells (hs : ExtM sh) (hr : RokM rf) (hR : RM S v) (hV : SV S)  : Cv g mX7_tells [aR 70] (sh, rf, v) (mP (o_tells S) sh rf v) := by
  have hm := hR.cm
  have hv := hV.1.1
  have hS := nS_rng hv
  have hd := nd_rng hv
  have hq := pw16 hv.2.2.2.1 hv.2.2.2.2
  have hn24 := hV.1.2.1
  obtain ⟨hvB, hp1, hp2, hq1, hq2⟩ := id hv
  obtain ⟨m, hmq⟩ : ∃ m : Nat, (m : Int) = 2 ^ S.1.1.2.2.2.2.toNat := ⟨2 ^ S.1.1.2.2.2.2.toNat, by simp⟩
  have hnd : nd S.1.1 = 2 ^ S.1.1.2.2.2.1.toNat := rfl
  obtain ⟨a1, a2, a3, ⟨b1, b2, b3, b4⟩, ⟨c1, c2⟩, ⟨d1, d2⟩⟩ := id hR
  have hTM : TM v S.2.2.2.2.2 S.2.2.2.2.1 := ⟨d1, hV.2.2.2.2.2.2.1, d2, hV.2.2.2.2.2.2.2⟩
  have hpr := parse_rng S.2.2.2.2.2 S.2.2.2.2.1
  have h60 := hV.2.2.2.2.2.2.1
  refine x_entry (ls := [some (aR 70), none]) rfl rfl (Nat.le_of_ble_eq_true rfl) ?_
  refine x_al_n (q := 1) dX7_tells_0 rfl rfl ?_
  refine x_V (q := 4) (ci := 7) dX7_tells_1 rfl kX7_tells_137 (m_takesAll hs hr hTM) rfl rfl (hs _ _ rfl) (by decide) rfl (Nat.le_of_ble_eq_true rfl) ⟨rfl, rfl⟩ ⟨Nat.zero_le _, Nat.zero_le _⟩ (fun r1 h1 hp => ?_)
  obtain ⟨z, u, rfl, rfl, xf, hy1, hx1⟩ := hp
  have hRu := xf.sm.rm hR
  refine x_if_ne (t := 15) (q := 7) dX7_tells_4 rfl rfl (fun c_4 => ?_) (fun c_4 => ?_)
  · skip
    obtain ⟨q1, q2⟩ := hy1 (b2i_n0.mp c_4)
    have hO : o_tells S = ((nS (parse S.2.2.2.2.2 S.2.2.2.2.1).2 : Int), ((parse S.2.2.2.2.2 S.2.2.2.2.1).2, 0, S.1.2.2.1, S.1.2.2.2.1, S.1.2.2.2.2.1, Bg (parse S.2.2.2.2.2 S.2.2.2.2.1).2), pushP S.2.1 S.1, (none, none), (0, S.2.2.2.1.2), 0, S.2.2.2.2.2) := by unfold o_tells; rw [if_neg (by rw [q1]; decide)]
    have hvl : Vld (parse S.2.2.2.2.2 S.2.2.2.2.1).2 := by rcases hpr with h | h; exact h.2; exact absurd q1 (by omega)
    refine x_al_n (q := 16) dX7_tells_15 rfl rfl ?_
    refine x_V (q := 19) (ci := 7) dX7_tells_16 rfl kX7_tells_140 (m_keepPast hs hr hRu hV) rfl rfl (hs _ _ rfl) (by decide) rfl (Nat.le_of_ble_eq_true rfl) ⟨rfl, rfl⟩ ⟨Nat.zero_le _, Nat.zero_le _⟩ (fun r1 h1 hp => ?_)
    obtain ⟨rfl, y, rfl, hRy, k1, k2⟩ := hp
    refine x_ic (q := 20) dX7_tells_19 rfl rfl ?_
    refine x_is1 (q := 21) dX7_tells_20 rfl rfl ?_
    rw [hO]
    refine x_up (S := fun k => ∀ w : Nat → Nat → Int, ((∀ j, j < k → w 71 j = u 79 j) ∧ ∀ d, d ≠ 71 → w d = y d) → Wv g mX7_tells 0 0 21 [some (aR 70), some (aI (k : Int))] [] (sh, rf, w) (mP ((nS (parse S.2.2.2.2.2 S.2.2.2.2.1).2 : Int), ((parse S.2.2.2.2.2 S.2.2.2.2.1).2, 0, S.1.2.2.1, S.1.2.2.2.1, S.1.2.2.2.2.1, Bg (parse S.2.2.2.2.2 S.2.2.2.2.1).2), pushP S.2.1 S.1, (none, none), (0, S.2.2.2.1.2), 0, S.2.2.2.2.2) sh rf v)) 5 ?_ ?_ 0 (by decide) y ⟨fun j hj => by omega, fun _ _ => rfl⟩
    · intro w ⟨hw1, hw2⟩
      have hmw : CM w (parse S.2.2.2.2.2 S.2.2.2.2.1).2 := ⟨by rw [hw1 0 (by decide)]; exact q2.1, by rw [hw1 1 (by decide)]; exact q2.2.1, by rw [hw1 2 (by decide)]; exact q2.2.2.1, by rw [hw1 3 (by decide)]; exact q2.2.2.2.1, by rw [hw1 4 (by decide)]; exact q2.2.2.2.2⟩
      refine x_il_n (q := 22) dX7_tells_21 rfl rfl ?_
      refine x_ic (q := 23) dX7_tells_22 rfl rfl ?_
      refine x_ic_ge (t := 44) (q := 26) dX7_tells_23 rfl rfl (fun c_23 => ?_) (fun c_23 => ?_)
      · skip
        refine x_al_n (q := 45) dX7_tells_44 rfl rfl ?_
        refine x_V (q := 48) (ci := 7) dX7_tells_45 rfl kX7_tells_53 (m_begins hs hr hmw hvl) rfl rfl (hs _ _ rfl) (by decide) rfl (Nat.le_of_ble_eq_true rfl) ⟨rfl, rfl⟩ ⟨Nat.zero_le _, Nat.zero_le _⟩ (fun r1 h1 hp => ?_)
        obtain ⟨rfl, x, rfl, x1, x2, x3, x4, x5⟩ := hp
        have hmx : CM x (parse S.2.2.2.2.2 S.2.2.2.2.1).2 := ⟨by rw [x3 0 (by decide) (by decide)]; exact hmw.1, by rw [x3 1 (by decide) (by decide)]; exact hmw.2.1, by rw [x3 2 (by decide) (by decide)]; exact hmw.2.2.1, by rw [x3 3 (by decide) (by decide)]; exact hmw.2.2.2.1, by rw [x3 4 (by decide) (by decide)]; exact hmw.2.2.2.2⟩
        refine x_al_n (q := 49) dX7_tells_48 rfl rfl ?_
        refine x_ic (q := 50) dX7_tells_49 rfl rfl ?_
        refine x_putI (q := 53) dX7_tells_50 rfl fX7_103 (hs _ _ rfl) (.inl rfl) rfl ?_
        refine x_al_n (q := 54) dX7_tells_53 rfl rfl ?_
        refine x_ic (q := 55) dX7_tells_54 rfl rfl ?_
        refine x_putI (q := 58) dX7_tells_55 rfl fX7_143 (hs _ _ rfl) (.inl rfl) rfl ?_
        refine x_al_n (q := 59) dX7_tells_58 rfl rfl ?_
        refine x_getR (q := 62) (o := some (74)) dX7_tells_59 rfl fX7_19 (hs _ _ rfl) rfl (hr _ _ rfl) ?_
        refine x_ic (q := 63) dX7_tells_62 rfl rfl ?_
        refine x_ic (q := 64) dX7_tells_63 rfl rfl ?_
        refine x_zast (q := 65) dX7_tells_64 rfl (hs _ _ rfl) (by omega) (by omega) (by first | exact .inl rfl | exact .inr rfl | exact b2i_01 _) ?_
        refine x_al_n (q := 66) dX7_tells_65 rfl rfl ?_
        refine x_getR (q := 69) (o := some (74)) dX7_tells_66 rfl fX7_19 (hs _ _ rfl) rfl (hr _ _ rfl) ?_
        refine x_ic (q := 70) dX7_tells_69 rfl rfl ?_
        refine x_ic (q := 71) dX7_tells_70 rfl rfl ?_
        refine x_zast (q := 72) dX7_tells_71 rfl (hs _ _ rfl) (by omega) (by omega) (by first | exact .inl rfl | exact .inr rfl | exact b2i_01 _) ?_
        refine x_al_n (q := 73) dX7_tells_72 rfl rfl ?_
        refine x_VI (q := 76) (ci := 7) dX7_tells_73 rfl kX7_tells_82 (m_states hs hr (hmx.cong (show up (up (up (up x 70 8 0) 70 6 0) 74 (0 : Int).toNat 0) 74 (1 : Int).toNat 0 71 = x 71 by rw [up_n _ _ _ (by decide), up_n _ _ _ (by decide), up_n _ _ _ (by decide), up_n _ _ _ (by decide)])) hvl) rfl rfl (hs _ _ rfl) (by decide) rfl (Nat.le_of_ble_eq_true rfl) ⟨rfl, rfl⟩ ⟨Nat.zero_le _, Nat.zero_le _⟩ ?_
        have hk : ∀ d, d ≠ 70 → d ≠ 74 → up (up (up (up x 70 8 0) 70 6 0) 74 (0 : Int).toNat 0) 74 (1 : Int).toNat 0 d = x d := fun d h0 h4 => by rw [up_n _ _ _ h4, up_n _ _ _ h4, up_n _ _ _ h0, up_n _ _ _ h0]
        generalize hW0 : up (up (up (up x 70 8 0) 70 6 0) 74 (0 : Int).toNat 0) 74 (1 : Int).toNat 0 = W0 at hk ⊢
        have y0 : W0 70 2 = x 70 2 := by rw [← hW0]; simp [up]
        have y1 : W0 70 6 = 0 := by rw [← hW0]; simp [up]
        have y2 : W0 70 8 = 0 := by rw [← hW0]; simp [up]
        have y3 : W0 74 0 = 0 := by rw [← hW0]; simp [up]
        have y4 : W0 74 1 = 0 := by rw [← hW0]; simp [up]
        have hx : ∀ d, d ≠ 70 → d ≠ 71 → d ≠ 77 → d ≠ 78 → d ≠ 72 → x d = u d := fun d h1 h2 h3 h4 h5 => by rw [x4 d h1 h2 h3 h4, hw2 d h2, k1 d h1 h5]
        have hx72 : x 72 = y 72 := by rw [x4 72 (by decide) (by decide) (by decide) (by decide), hw2 72 (by decide)]
        obtain ⟨r1, r2, r3, -, -, -⟩ := hRy
        refine x_iret dX7_tells_76 rfl rfl (Nat.zero_le _) ⟨rfl, W0, rfl, ⟨⟨⟨?_, ?_, ?_, ?_, ?_⟩, ?_, ?_, fun i hi => absurd hi (Nat.not_lt_zero _)⟩, ?_, fun i h hi => ?_, ⟨y3, y4, (fun h hh => by cases hh), (fun h hh => by cases hh)⟩, ⟨y1, fun i hi => absurd hi (Nat.not_lt_zero _)⟩, ⟨y2, fun i hi => absurd hi (Nat.not_lt_zero _)⟩⟩, fun d hd => by rw [hk d (by omega) (by omega), hx d (by omega) (by omega) (by omega) (by omega) (by omega)]; exact xf.1 d (by omega) (by omega)⟩
        · rw [hk 71 (by decide) (by decide)]; exact hmx.1
        · rw [hk 71 (by decide) (by decide)]; exact hmx.2.1
        · rw [hk 71 (by decide) (by decide)]; exact hmx.2.2.1
        · rw [hk 71 (by decide) (by decide)]; exact hmx.2.2.2.1
        · rw [hk 71 (by decide) (by decide)]; exact hmx.2.2.2.2
        · rw [hk 71 (by decide) (by decide)]; exact x1
        · rw [hk 71 (by decide) (by decide)]; exact x2
        · rw [y0, x5 2 (by decide) (by decide), hw2 70 (by decide)]; exact r2
        · exact (r3 i h hi).cong (by rw [hk 72 (by decide) (by decide), hx72])
      · skip
        exact absurd (by decide) c_23
    · intro k hk ih w ⟨hw1, hw2⟩
      refine x_il_n (q := 22) dX7_tells_21 rfl rfl ?_
      refine x_ic (q := 23) dX7_tells_22 rfl rfl ?_
      refine x_ic_ge (t := 44) (q := 26) dX7_tells_23 rfl rfl (fun c_23 => ?_) (fun c_23 => ?_)
      · skip
        exact absurd c_23 (by omega)
      · skip
        refine x_al_n (q := 27) dX7_tells_26 rfl rfl ?_
        refine x_getR (q := 30) (o := some (71)) dX7_tells_27 rfl fX7_7 (hs _ _ rfl) rfl (hr _ _ rfl) ?_
        refine x_il_n (q := 31) dX7_tells_30 rfl rfl ?_
        refine x_al_n (q := 32) dX7_tells_31 rfl rfl ?_
        refine x_getR (q := 35) (o := some (79)) dX7_tells_32 rfl fX7_35 (hs _ _ rfl) rfl (hr _ _ rfl) ?_
        refine x_il_n (q := 36) dX7_tells_35 rfl rfl ?_
        refine x_ialde (q := 37) (z := u 79 k) dX7_tells_36 rfl (hs _ _ rfl) (by omega) (by omega) (by rw [hw2 79 (by decide), k1 79 (by decide) (by decide), Int.toNat_natCast]) ?_
        refine x_iast (q := 38) dX7_tells_37 rfl (hs _ _ rfl) (by omega) (by omega) ?_
        refine x_ii1 (q := 41) dX7_tells_38 rfl rfl ⟨by omega, by omega⟩ ?_
        refine x_goto (t := 21) dX7_tells_41 rfl ?_
        rw [Int.toNat_natCast]
        refine ih _ ⟨fun j hj => ?_, fun d hd => by rw [up_n _ _ _ hd]; exact hw2 d hd⟩
        rw [up_at]
        by_cases he : j = k
        · rw [if_pos he, he]
        · rw [if_neg he]; exact hw1 j (by omega)
  · skip
    obtain ⟨q1, q2⟩ := hx1 (b2i_0.mp c_4)
    have hO : o_tells S = (-10 - (parse S.2.2.2.2.2 S.2.2.2.2.1).1, S) := by unfold o_tells; rw [if_pos q1]
    refine x_bi (q := 9) dX7_tells_7 rfl rfl ?_
    refine x_al_n (q := 10) dX7_tells_9 rfl rfl ?_
    refine x_getIe (q := 13) (z := (parse S.2.2.2.2.2 S.2.2.2.2.1).1) dX7_tells_10 rfl fX7_106 (hs _ _ rfl) rfl (q2) ?_
    refine x_sub (q := 14) dX7_tells_13 rfl ⟨by omega, by omega⟩ ?_
    exact x_iret dX7_tells_14 rfl rfl (Nat.zero_le _) ⟨by rw [hO], u, rfl, by rw [hO]; exact hRu, fun d hd => xf.1 d (by omega) (by omega)⟩
end MOL

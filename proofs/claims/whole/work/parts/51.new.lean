/-! ===== a new BannedRows ===== -/
def H00 : AH := oN ([], fun _ _ => none, fun _ _ => 0) (9, 11)
def hb1 : AH := oF (HText (oN H00 (8, 5)) 1) 0 0 (some 1)
def hb2 : AH := oF (oB (oN hb1 (4, 5)) 3) 0 1 (some 3)
def hb3 : AH := oF (HHeld (oN hb2 (5, 2)) 4) 0 2 (some 4)
def hb4 : AH := oF (HArcs (oN hb3 (3, 8)) 10) 0 3 (some 10)
def hb5 : AH := oF (HSums (oN hb4 (7, 2)) 15) 0 4 (some 15)
def hp0 : AH := oA hb5 0 5 (2, 6)
def hp1 : AH := oF (HHeld (oN hp0 (5, 2)) 19) 18 0 (some 19)
def hp2 : AH := oF (HHeld (oN hp1 (5, 2)) 25) 18 1 (some 25)
def hp3 : AH := oF (HHeld (oN hp2 (5, 2)) 31) 18 2 (some 31)
def hp4 : AH := oF (HHeld (oN hp3 (5, 2)) 37) 18 3 (some 37)
def hp5 : AH := oF (HHeld (oN hp4 (5, 2)) 43) 18 4 (some 43)
def hp6 : AH := oF (HHeld (oN hp5 (5, 2)) 49) 18 5 (some 49)
def hq0 : AH := oA hp6 0 7 (2, 2)
def hq1 : AH := oF (HHeld (oN hq0 (5, 2)) 56) 55 0 (some 56)
def hq2 : AH := oF (HHeld (oN hq1 (5, 2)) 62) 55 1 (some 62)
def hb9 : AH := oA (oA hq2 0 8 (1, 2)) 0 9 (0, 6)
set_option maxRecDepth 100000 in
theorem hb9_sh : hb9.1 = SHc := by decide +kernel
theorem hb9_ext : Ext hb9.1 := fun c kl h => by rw [hb9_sh]; exact h
set_option maxRecDepth 100000 in
theorem hb9_fin : ∀ c : Nat, c < 70 → ∀ k : Nat, k < 12 → (RFl c k = none ∨ hb9.2.1 c k = RFl c k) := by decide +kernel
theorem RFl_rng {c k d : Nat} (h : RFl c k = some d) : c < 70 ∧ k < 12 := by
  unfold RFl at h
  split at h <;> first | (constructor <;> decide) | cases h
theorem hb9_rok : Rok hb9.2.1 := fun c k d h => by
  have hr := RFl_rng h
  rcases hb9_fin c hr.1 k hr.2 with q | q
  · rw [q] at h; cases h
  · rw [q]; exact h
set_option maxRecDepth 100000 in
theorem hb9_pi : ∀ i : Nat, i < 6 → hb9.2.1 18 i = some (19 + 6 * i) := by decide +kernel
set_option maxRecDepth 100000 in
theorem hb9_v : hb9.2.2 5 0 = 0 ∧ hb9.2.2 5 1 = 1 ∧ hb9.2.2 5 2 = 3 ∧ hb9.2.2 5 3 = 1 ∧ hb9.2.2 5 4 = 2 ∧ hb9.2.2 0 6 = 0 ∧ hb9.2.2 0 10 = 0 ∧ hb9.2.2 1 1 = 0 ∧ hb9.2.2 68 0 = 0 ∧ hb9.2.2 68 1 = 0 := by decide +kernel
def c0 : Cfg := (0, 1, 3, 1, 2)
theorem c0_v : Vld c0 := ⟨.inl (by show (0 : Int) = 0 ∧ (0 : Int) ≤ 1 ∧ (1 : Int) ≤ 3 ∧ (1 : Int) ≤ 3 ∧ (1 : Int) ≤ 3 ∧ (3 : Int) ≤ 5; decide), by show (1 : Int) ≤ 1; decide, by show (1 : Int) ≤ 3; decide, by show (1 : Int) ≤ 2; decide, by show (2 : Int) ≤ 4; decide⟩
def S0 : St := ((c0, 0, fun _ => 0, fun _ => 0, fun _ => 0, Bg c0), [], (none, none), (0, fun _ => 0), (0, fun _ => 0))
theorem S0_v : SV S0 := ⟨HV_new c0_v _ _ _, Nat.zero_le _, fun h hh => absurd hh List.not_mem_nil, (fun h hh => by cases hh), (fun h hh => by cases hh), ⟨Nat.zero_le _, fun i hi => absurd hi (Nat.not_lt_zero _)⟩, Nat.zero_le _, fun i hi => absurd hi (Nat.not_lt_zero _)⟩
section BRI
variable {g : GL}

set_option maxHeartbeats 4000000 in
set_option maxRecDepth 100000 in
theorem br_tail {z : Int} : Wv g mX6_init 69 1104 144 [some (aR 0), some (aI z)] [] hb9 (fun r h1 => r = none ∧ ∃ u, h1 = (SHc, hb9.2.1, u) ∧ RC S0 hb9.2.1 u) := by
  have hs := hb9_ext
  have hr := hb9_rok
  obtain ⟨v0, v1, v2, v3, v4, v5, v6, v7, v8, v9⟩ := hb9_v
  have hpi := hb9_pi
  have hsh := hb9_sh
  refine x_heap (h' := (hb9.1, hb9.2.1, hb9.2.2)) rfl ?_
  generalize hb9.2.2 = v at v0 v1 v2 v3 v4 v5 v6 v7 v8 v9 ⊢
  generalize hb9.2.1 = rf at hr hpi ⊢
  rw [← hsh]
  generalize hb9.1 = sh at hs ⊢
  have hban : banOf v 5 = c0 := by unfold banOf; rw [v0, v1, v2, v3, v4]; rfl
  refine x_al_n (q := 145) dX6_init_144 rfl rfl ?_
  refine x_getR (q := 148) (o := some (10)) dX6_init_145 rfl fX6_33 (hs _ _ rfl) rfl (hr _ _ _ rfl) ?_
  refine x_al_n (q := 149) dX6_init_148 rfl rfl ?_
  refine x_getR (q := 152) (o := some (4)) dX6_init_149 rfl fX6_26 (hs _ _ rfl) rfl (hr _ _ _ rfl) ?_
  refine x_getR (q := 155) (o := some (5)) dX6_init_152 rfl fX6_59 (hs _ _ rfl) rfl (hr _ _ _ rfl) ?_
  refine x_V (q := 158) (ci := 0) dX6_init_155 rfl kX6_init_62 (c_build hs hr (c := 5) (hs _ _ rfl) (by decide) (by rw [hban]; exact c0_v)) rfl rfl (hs _ _ rfl) (by decide) rfl (Nat.le_of_ble_eq_true rfl) ⟨rfl, rfl⟩ ⟨(Nat.le_of_ble_eq_true rfl), (Nat.le_of_ble_eq_true rfl)⟩ (fun r1 h1 hp => ?_)
  obtain ⟨rfl, u, rfl, g1, g2⟩ := hp
  rw [hban] at g1
  refine x_al_n (q := 159) dX6_init_158 rfl rfl ?_
  refine x_getR (q := 162) (o := some (4)) dX6_init_159 rfl fX6_26 (hs _ _ rfl) rfl (hr _ _ _ rfl) ?_
  refine x_getR (q := 165) (o := some (6)) dX6_init_162 rfl fX6_66 (hs _ _ rfl) rfl (hr _ _ _ rfl) ?_
  refine x_al_n (q := 166) dX6_init_165 rfl rfl ?_
  refine x_getR (q := 169) (o := some (10)) dX6_init_166 rfl fX6_33 (hs _ _ rfl) rfl (hr _ _ _ rfl) ?_
  refine x_getIe (q := 172) (z := Bg c0) dX6_init_169 rfl fX6_70 (hs _ _ rfl) rfl (g1.2.2.1) ?_
  refine x_V (q := 175) (ci := 3) dX6_init_172 rfl kX6_init_74 (c_empty (l := 6) (line6 hs hr)) rfl rfl (hs _ _ rfl) (by decide) rfl (Nat.le_of_ble_eq_true rfl) ⟨rfl, rfl⟩ ⟨(Nat.le_of_ble_eq_true rfl), (Nat.le_of_ble_eq_true rfl)⟩ (fun r1 h1 hp => ?_)
  obtain ⟨rfl, rfl⟩ := hp
  have hk : ∀ d, d ≠ 6 → up (up u 6 3 0) 6 4 (Bg c0) d = u d := fun d hd => by rw [up_n _ _ _ hd, up_n _ _ _ hd]
  refine x_vret dX6_init_175 rfl rfl (Nat.le_of_ble_eq_true rfl) ⟨rfl, _, rfl, ⟨⟨?_, ?_, ?_, fun i hi => absurd hi (Nat.not_lt_zero _)⟩, g1.cong (hk 10 (by decide)) (hk 11 (by decide)) (hk 12 (by decide)), ⟨id, ⟨fun i hi => hi, fun i j _ _ h => h⟩, hpi, fun i h hi => by cases hi⟩, ?_, ⟨?_, ?_, (fun h hh => by cases hh), (fun h hh => by cases hh)⟩, ⟨?_, fun i hi => absurd hi (Nat.not_lt_zero _)⟩, ⟨?_, fun i hi => absurd hi (Nat.not_lt_zero _)⟩⟩⟩
  · exact (banOf_cong (hk 5 (by decide))).trans ((banOf_cong (g2 5 (by decide))).trans hban)
  · show up (up u 6 3 0) 6 4 (Bg c0) 6 3 = 0; rw [up_at, if_neg (by decide), up_at, if_pos rfl]
  · show up (up u 6 3 0) 6 4 (Bg c0) 6 4 = Bg c0; rw [up_at, if_pos rfl]
  · rw [hk 0 (by decide), g2 0 (by decide)]; exact v5
  · rw [hk 68 (by decide), g2 68 (by decide)]; exact v8
  · rw [hk 68 (by decide), g2 68 (by decide)]; exact v9
  · rw [hk 0 (by decide), g2 0 (by decide)]; exact v6
  · rw [hk 1 (by decide), g2 1 (by decide)]; exact v7
set_option maxHeartbeats 4000000 in
set_option maxRecDepth 100000 in
theorem c_brInit : Cv g mX6_init [aR 0] H00 (fun r h1 => r = none ∧ ∃ u, h1 = (SHc, hb9.2.1, u) ∧ RC S0 hb9.2.1 u) := by
  refine x_entry (ls := [some (aR 0), none]) rfl rfl (Nat.le_of_ble_eq_true rfl) ?_
  refine x_al_n (q := 1) dX6_init_0 rfl rfl ?_
  refine x_obj (q := 4) dX6_init_1 rfl q85 q86 q87 (Nat.le_of_ble_eq_true rfl) (Nat.le_of_ble_eq_true rfl) (Nat.le_of_ble_eq_true rfl) ?_
  refine x_al_n (q := 5) dX6_init_4 rfl rfl ?_
  refine x_new (q := 8) (ci := 5) dX6_init_5 rfl (by decide) q88 q89 q70 (Nat.le_of_ble_eq_true rfl) (Nat.le_of_ble_eq_true rfl) ?_
  refine x_dup (q := 9) dX6_init_8 rfl rfl ?_
  refine x_callI (q := 12) dX6_init_9 rfl kX6_init_9 rfl (c_textInit (e := 1) rfl) rfl rfl (Nat.le_of_ble_eq_true rfl) ⟨(Nat.le_of_ble_eq_true rfl), (Nat.le_of_ble_eq_true rfl)⟩ (fun r1 h1 hp => ?_)
  obtain ⟨rfl, rfl⟩ := hp
  refine x_putF (q := 15) dX6_init_12 rfl fX6_10 rfl rfl rfl rfl rfl ?_
  refine x_heap (h' := hb1) rfl ?_
  refine x_al_n (q := 16) dX6_init_15 rfl rfl ?_
  refine x_new (q := 19) (ci := 1) dX6_init_16 rfl (by decide) q112 q113 q71 (Nat.le_of_ble_eq_true rfl) (Nat.le_of_ble_eq_true rfl) ?_
  refine x_dup (q := 20) dX6_init_19 rfl rfl ?_
  refine x_callI (q := 23) dX6_init_20 rfl kX6_init_18 rfl (c_banInit (c := 3) rfl) rfl rfl (Nat.le_of_ble_eq_true rfl) ⟨(Nat.le_of_ble_eq_true rfl), (Nat.le_of_ble_eq_true rfl)⟩ (fun r1 h1 hp => ?_)
  obtain ⟨rfl, rfl⟩ := hp
  refine x_putF (q := 26) dX6_init_23 rfl fX6_19 rfl rfl rfl rfl rfl ?_
  refine x_heap (h' := hb2) rfl ?_
  refine x_al_n (q := 27) dX6_init_26 rfl rfl ?_
  refine x_new (q := 30) (ci := 2) dX6_init_27 rfl (by decide) q146 q147 q72 (Nat.le_of_ble_eq_true rfl) (Nat.le_of_ble_eq_true rfl) ?_
  refine x_dup (q := 31) dX6_init_30 rfl rfl ?_
  refine x_callI (q := 34) dX6_init_31 rfl kX6_init_25 rfl (c_heldInit (e := 4) rfl) rfl rfl (Nat.le_of_ble_eq_true rfl) ⟨(Nat.le_of_ble_eq_true rfl), (Nat.le_of_ble_eq_true rfl)⟩ (fun r1 h1 hp => ?_)
  obtain ⟨rfl, rfl⟩ := hp
  refine x_putF (q := 37) dX6_init_34 rfl fX6_26 rfl rfl rfl rfl rfl ?_
  refine x_heap (h' := hb3) rfl ?_
  refine x_al_n (q := 38) dX6_init_37 rfl rfl ?_
  refine x_new (q := 41) (ci := 0) dX6_init_38 rfl (by decide) q188 q189 q74 (Nat.le_of_ble_eq_true rfl) (Nat.le_of_ble_eq_true rfl) ?_
  refine x_dup (q := 42) dX6_init_41 rfl rfl ?_
  refine x_callI (q := 45) dX6_init_42 rfl kX6_init_32 rfl (c_arcsInit (e := 10) rfl) rfl rfl (Nat.le_of_ble_eq_true rfl) ⟨(Nat.le_of_ble_eq_true rfl), (Nat.le_of_ble_eq_true rfl)⟩ (fun r1 h1 hp => ?_)
  obtain ⟨rfl, rfl⟩ := hp
  refine x_putF (q := 48) dX6_init_45 rfl fX6_33 rfl rfl rfl rfl rfl ?_
  refine x_heap (h' := hb4) rfl ?_
  refine x_al_n (q := 49) dX6_init_48 rfl rfl ?_
  refine x_new (q := 52) (ci := 4) dX6_init_49 rfl (by decide) q224 q225 q75 (Nat.le_of_ble_eq_true rfl) (Nat.le_of_ble_eq_true rfl) ?_
  refine x_dup (q := 53) dX6_init_52 rfl rfl ?_
  refine x_callI (q := 56) dX6_init_53 rfl kX6_init_39 rfl (c_sumsInit (e := 15) rfl) rfl rfl (Nat.le_of_ble_eq_true rfl) ⟨(Nat.le_of_ble_eq_true rfl), (Nat.le_of_ble_eq_true rfl)⟩ (fun r1 h1 hp => ?_)
  obtain ⟨rfl, rfl⟩ := hp
  refine x_putF (q := 59) dX6_init_56 rfl fX6_40 rfl rfl rfl rfl rfl ?_
  refine x_heap (h' := hb5) rfl ?_
  refine x_al_n (q := 60) dX6_init_59 rfl rfl ?_
  refine x_bi (q := 62) dX6_init_60 rfl rfl ?_
  refine x_newH (q := 65) (n := 6) dX6_init_62 rfl q146 rfl (by decide) (Nat.le_of_ble_eq_true rfl) (Nat.le_of_ble_eq_true rfl) ?_
  refine x_putF (q := 68) dX6_init_65 rfl fX6_44 rfl rfl rfl rfl rfl ?_
  refine x_ic (q := 69) dX6_init_68 rfl rfl ?_
  refine x_is1 (q := 70) dX6_init_69 rfl rfl ?_
  refine x_heap (h' := hp0) rfl ?_
  refine x_il_n (q := 71) dX6_init_70 rfl rfl ?_
  refine x_bi (q := 73) dX6_init_71 rfl rfl ?_
  refine x_ic_ge (t := 95) (q := 76) dX6_init_73 rfl rfl (fun c_73 => ?_) (fun c_73 => ?_)
  · skip
    exact absurd c_73 (by decide)
  · skip
    refine x_al_n (q := 77) dX6_init_76 rfl rfl ?_
    refine x_getR (q := 80) (o := some (18)) dX6_init_77 rfl fX6_44 rfl rfl rfl ?_
    refine x_il_n (q := 81) dX6_init_80 rfl rfl ?_
    refine x_new (q := 84) (ci := 2) dX6_init_81 rfl (by decide) q146 q147 q72 (Nat.le_of_ble_eq_true rfl) (Nat.le_of_ble_eq_true rfl) ?_
    refine x_dup (q := 85) dX6_init_84 rfl rfl ?_
    refine x_callI (q := 88) dX6_init_85 rfl kX6_init_25 rfl (c_heldInit (e := 19) rfl) rfl rfl (Nat.le_of_ble_eq_true rfl) ⟨(Nat.le_of_ble_eq_true rfl), (Nat.le_of_ble_eq_true rfl)⟩ (fun r1 h1 hp => ?_)
    obtain ⟨rfl, rfl⟩ := hp
    refine x_aast (q := 89) dX6_init_88 rfl rfl rfl (by decide) (by decide) ?_
    refine x_ii1 (q := 92) dX6_init_89 rfl rfl ⟨by omega, by omega⟩ ?_
    refine x_goto (t := 70) dX6_init_92 rfl ?_
    refine x_heap (h' := hp1) rfl ?_
    refine x_il_n (q := 71) dX6_init_70 rfl rfl ?_
    refine x_bi (q := 73) dX6_init_71 rfl rfl ?_
    refine x_ic_ge (t := 95) (q := 76) dX6_init_73 rfl rfl (fun c_73 => ?_) (fun c_73 => ?_)
    · skip
      exact absurd c_73 (by decide)
    · skip
      refine x_al_n (q := 77) dX6_init_76 rfl rfl ?_
      refine x_getR (q := 80) (o := some (18)) dX6_init_77 rfl fX6_44 rfl rfl rfl ?_
      refine x_il_n (q := 81) dX6_init_80 rfl rfl ?_
      refine x_new (q := 84) (ci := 2) dX6_init_81 rfl (by decide) q146 q147 q72 (Nat.le_of_ble_eq_true rfl) (Nat.le_of_ble_eq_true rfl) ?_
      refine x_dup (q := 85) dX6_init_84 rfl rfl ?_
      refine x_callI (q := 88) dX6_init_85 rfl kX6_init_25 rfl (c_heldInit (e := 25) rfl) rfl rfl (Nat.le_of_ble_eq_true rfl) ⟨(Nat.le_of_ble_eq_true rfl), (Nat.le_of_ble_eq_true rfl)⟩ (fun r1 h1 hp => ?_)
      obtain ⟨rfl, rfl⟩ := hp
      refine x_aast (q := 89) dX6_init_88 rfl rfl rfl (by decide) (by decide) ?_
      refine x_ii1 (q := 92) dX6_init_89 rfl rfl ⟨by omega, by omega⟩ ?_
      refine x_goto (t := 70) dX6_init_92 rfl ?_
      refine x_heap (h' := hp2) rfl ?_
      refine x_il_n (q := 71) dX6_init_70 rfl rfl ?_
      refine x_bi (q := 73) dX6_init_71 rfl rfl ?_
      refine x_ic_ge (t := 95) (q := 76) dX6_init_73 rfl rfl (fun c_73 => ?_) (fun c_73 => ?_)
      · skip
        exact absurd c_73 (by decide)
      · skip
        refine x_al_n (q := 77) dX6_init_76 rfl rfl ?_
        refine x_getR (q := 80) (o := some (18)) dX6_init_77 rfl fX6_44 rfl rfl rfl ?_
        refine x_il_n (q := 81) dX6_init_80 rfl rfl ?_
        refine x_new (q := 84) (ci := 2) dX6_init_81 rfl (by decide) q146 q147 q72 (Nat.le_of_ble_eq_true rfl) (Nat.le_of_ble_eq_true rfl) ?_
        refine x_dup (q := 85) dX6_init_84 rfl rfl ?_
        refine x_callI (q := 88) dX6_init_85 rfl kX6_init_25 rfl (c_heldInit (e := 31) rfl) rfl rfl (Nat.le_of_ble_eq_true rfl) ⟨(Nat.le_of_ble_eq_true rfl), (Nat.le_of_ble_eq_true rfl)⟩ (fun r1 h1 hp => ?_)
        obtain ⟨rfl, rfl⟩ := hp
        refine x_aast (q := 89) dX6_init_88 rfl rfl rfl (by decide) (by decide) ?_
        refine x_ii1 (q := 92) dX6_init_89 rfl rfl ⟨by omega, by omega⟩ ?_
        refine x_goto (t := 70) dX6_init_92 rfl ?_
        refine x_heap (h' := hp3) rfl ?_
        refine x_il_n (q := 71) dX6_init_70 rfl rfl ?_
        refine x_bi (q := 73) dX6_init_71 rfl rfl ?_
        refine x_ic_ge (t := 95) (q := 76) dX6_init_73 rfl rfl (fun c_73 => ?_) (fun c_73 => ?_)
        · skip
          exact absurd c_73 (by decide)
        · skip
          refine x_al_n (q := 77) dX6_init_76 rfl rfl ?_
          refine x_getR (q := 80) (o := some (18)) dX6_init_77 rfl fX6_44 rfl rfl rfl ?_
          refine x_il_n (q := 81) dX6_init_80 rfl rfl ?_
          refine x_new (q := 84) (ci := 2) dX6_init_81 rfl (by decide) q146 q147 q72 (Nat.le_of_ble_eq_true rfl) (Nat.le_of_ble_eq_true rfl) ?_
          refine x_dup (q := 85) dX6_init_84 rfl rfl ?_
          refine x_callI (q := 88) dX6_init_85 rfl kX6_init_25 rfl (c_heldInit (e := 37) rfl) rfl rfl (Nat.le_of_ble_eq_true rfl) ⟨(Nat.le_of_ble_eq_true rfl), (Nat.le_of_ble_eq_true rfl)⟩ (fun r1 h1 hp => ?_)
          obtain ⟨rfl, rfl⟩ := hp
          refine x_aast (q := 89) dX6_init_88 rfl rfl rfl (by decide) (by decide) ?_
          refine x_ii1 (q := 92) dX6_init_89 rfl rfl ⟨by omega, by omega⟩ ?_
          refine x_goto (t := 70) dX6_init_92 rfl ?_
          refine x_heap (h' := hp4) rfl ?_
          refine x_il_n (q := 71) dX6_init_70 rfl rfl ?_
          refine x_bi (q := 73) dX6_init_71 rfl rfl ?_
          refine x_ic_ge (t := 95) (q := 76) dX6_init_73 rfl rfl (fun c_73 => ?_) (fun c_73 => ?_)
          · skip
            exact absurd c_73 (by decide)
          · skip
            refine x_al_n (q := 77) dX6_init_76 rfl rfl ?_
            refine x_getR (q := 80) (o := some (18)) dX6_init_77 rfl fX6_44 rfl rfl rfl ?_
            refine x_il_n (q := 81) dX6_init_80 rfl rfl ?_
            refine x_new (q := 84) (ci := 2) dX6_init_81 rfl (by decide) q146 q147 q72 (Nat.le_of_ble_eq_true rfl) (Nat.le_of_ble_eq_true rfl) ?_
            refine x_dup (q := 85) dX6_init_84 rfl rfl ?_
            refine x_callI (q := 88) dX6_init_85 rfl kX6_init_25 rfl (c_heldInit (e := 43) rfl) rfl rfl (Nat.le_of_ble_eq_true rfl) ⟨(Nat.le_of_ble_eq_true rfl), (Nat.le_of_ble_eq_true rfl)⟩ (fun r1 h1 hp => ?_)
            obtain ⟨rfl, rfl⟩ := hp
            refine x_aast (q := 89) dX6_init_88 rfl rfl rfl (by decide) (by decide) ?_
            refine x_ii1 (q := 92) dX6_init_89 rfl rfl ⟨by omega, by omega⟩ ?_
            refine x_goto (t := 70) dX6_init_92 rfl ?_
            refine x_heap (h' := hp5) rfl ?_
            refine x_il_n (q := 71) dX6_init_70 rfl rfl ?_
            refine x_bi (q := 73) dX6_init_71 rfl rfl ?_
            refine x_ic_ge (t := 95) (q := 76) dX6_init_73 rfl rfl (fun c_73 => ?_) (fun c_73 => ?_)
            · skip
              exact absurd c_73 (by decide)
            · skip
              refine x_al_n (q := 77) dX6_init_76 rfl rfl ?_
              refine x_getR (q := 80) (o := some (18)) dX6_init_77 rfl fX6_44 rfl rfl rfl ?_
              refine x_il_n (q := 81) dX6_init_80 rfl rfl ?_
              refine x_new (q := 84) (ci := 2) dX6_init_81 rfl (by decide) q146 q147 q72 (Nat.le_of_ble_eq_true rfl) (Nat.le_of_ble_eq_true rfl) ?_
              refine x_dup (q := 85) dX6_init_84 rfl rfl ?_
              refine x_callI (q := 88) dX6_init_85 rfl kX6_init_25 rfl (c_heldInit (e := 49) rfl) rfl rfl (Nat.le_of_ble_eq_true rfl) ⟨(Nat.le_of_ble_eq_true rfl), (Nat.le_of_ble_eq_true rfl)⟩ (fun r1 h1 hp => ?_)
              obtain ⟨rfl, rfl⟩ := hp
              refine x_aast (q := 89) dX6_init_88 rfl rfl rfl (by decide) (by decide) ?_
              refine x_ii1 (q := 92) dX6_init_89 rfl rfl ⟨by omega, by omega⟩ ?_
              refine x_goto (t := 70) dX6_init_92 rfl ?_
              refine x_heap (h' := hp6) rfl ?_
              refine x_il_n (q := 71) dX6_init_70 rfl rfl ?_
              refine x_bi (q := 73) dX6_init_71 rfl rfl ?_
              refine x_ic_ge (t := 95) (q := 76) dX6_init_73 rfl rfl (fun c_73 => ?_) (fun c_73 => ?_)
              · skip
                refine x_al_n (q := 96) dX6_init_95 rfl rfl ?_
                refine x_ic (q := 97) dX6_init_96 rfl rfl ?_
                refine x_newH (q := 100) (n := 2) dX6_init_97 rfl q146 rfl (by decide) (Nat.le_of_ble_eq_true rfl) (Nat.le_of_ble_eq_true rfl) ?_
                refine x_putF (q := 103) dX6_init_100 rfl fX6_48 rfl rfl rfl rfl rfl ?_
                refine x_ic (q := 104) dX6_init_103 rfl rfl ?_
                refine x_is1 (q := 105) dX6_init_104 rfl rfl ?_
                refine x_heap (h' := hq0) rfl ?_
                refine x_il_n (q := 106) dX6_init_105 rfl rfl ?_
                refine x_ic (q := 107) dX6_init_106 rfl rfl ?_
                refine x_ic_ge (t := 129) (q := 110) dX6_init_107 rfl rfl (fun c_107 => ?_) (fun c_107 => ?_)
                · skip
                  exact absurd c_107 (by decide)
                · skip
                  refine x_al_n (q := 111) dX6_init_110 rfl rfl ?_
                  refine x_getR (q := 114) (o := some (55)) dX6_init_111 rfl fX6_48 rfl rfl rfl ?_
                  refine x_il_n (q := 115) dX6_init_114 rfl rfl ?_
                  refine x_new (q := 118) (ci := 2) dX6_init_115 rfl (by decide) q146 q147 q72 (Nat.le_of_ble_eq_true rfl) (Nat.le_of_ble_eq_true rfl) ?_
                  refine x_dup (q := 119) dX6_init_118 rfl rfl ?_
                  refine x_callI (q := 122) dX6_init_119 rfl kX6_init_25 rfl (c_heldInit (e := 56) rfl) rfl rfl (Nat.le_of_ble_eq_true rfl) ⟨(Nat.le_of_ble_eq_true rfl), (Nat.le_of_ble_eq_true rfl)⟩ (fun r1 h1 hp => ?_)
                  obtain ⟨rfl, rfl⟩ := hp
                  refine x_aast (q := 123) dX6_init_122 rfl rfl rfl (by decide) (by decide) ?_
                  refine x_ii1 (q := 126) dX6_init_123 rfl rfl ⟨by omega, by omega⟩ ?_
                  refine x_goto (t := 105) dX6_init_126 rfl ?_
                  refine x_heap (h' := hq1) rfl ?_
                  refine x_il_n (q := 106) dX6_init_105 rfl rfl ?_
                  refine x_ic (q := 107) dX6_init_106 rfl rfl ?_
                  refine x_ic_ge (t := 129) (q := 110) dX6_init_107 rfl rfl (fun c_107 => ?_) (fun c_107 => ?_)
                  · skip
                    exact absurd c_107 (by decide)
                  · skip
                    refine x_al_n (q := 111) dX6_init_110 rfl rfl ?_
                    refine x_getR (q := 114) (o := some (55)) dX6_init_111 rfl fX6_48 rfl rfl rfl ?_
                    refine x_il_n (q := 115) dX6_init_114 rfl rfl ?_
                    refine x_new (q := 118) (ci := 2) dX6_init_115 rfl (by decide) q146 q147 q72 (Nat.le_of_ble_eq_true rfl) (Nat.le_of_ble_eq_true rfl) ?_
                    refine x_dup (q := 119) dX6_init_118 rfl rfl ?_
                    refine x_callI (q := 122) dX6_init_119 rfl kX6_init_25 rfl (c_heldInit (e := 62) rfl) rfl rfl (Nat.le_of_ble_eq_true rfl) ⟨(Nat.le_of_ble_eq_true rfl), (Nat.le_of_ble_eq_true rfl)⟩ (fun r1 h1 hp => ?_)
                    obtain ⟨rfl, rfl⟩ := hp
                    refine x_aast (q := 123) dX6_init_122 rfl rfl rfl (by decide) (by decide) ?_
                    refine x_ii1 (q := 126) dX6_init_123 rfl rfl ⟨by omega, by omega⟩ ?_
                    refine x_goto (t := 105) dX6_init_126 rfl ?_
                    refine x_heap (h' := hq2) rfl ?_
                    refine x_il_n (q := 106) dX6_init_105 rfl rfl ?_
                    refine x_ic (q := 107) dX6_init_106 rfl rfl ?_
                    refine x_ic_ge (t := 129) (q := 110) dX6_init_107 rfl rfl (fun c_107 => ?_) (fun c_107 => ?_)
                    · skip
                      refine x_al_n (q := 130) dX6_init_129 rfl rfl ?_
                      refine x_ic (q := 131) dX6_init_130 rfl rfl ?_
                      refine x_newZ (q := 133) (n := 2) dX6_init_131 rfl q368 rfl (by decide) (Nat.le_of_ble_eq_true rfl) (Nat.le_of_ble_eq_true rfl) ?_
                      refine x_putF (q := 136) dX6_init_133 rfl fX6_51 rfl rfl rfl rfl rfl ?_
                      refine x_al_n (q := 137) dX6_init_136 rfl rfl ?_
                      refine x_bi (q := 139) dX6_init_137 rfl rfl ?_
                      refine x_newI (q := 141) (n := 6) dX6_init_139 rfl q111 rfl (by decide) (Nat.le_of_ble_eq_true rfl) (Nat.le_of_ble_eq_true rfl) ?_
                      refine x_putF (q := 144) dX6_init_141 rfl fX6_55 rfl rfl rfl rfl rfl ?_
                      refine x_heap (h' := hb9) rfl ?_
                      exact br_tail
                    · skip
                      exact absurd (by decide) c_107
              · skip
                exact absurd (by decide) c_73
end BRI

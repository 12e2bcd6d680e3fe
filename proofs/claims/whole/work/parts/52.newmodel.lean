/-! ===== a new Model ===== -/
def hm0 (rf : Nat → Nat → Option Nat) (v : Nat → Nat → Int) : AH := (SHc ++ [(10, 22)], rf, v)
def hm1 (rf : Nat → Nat → Option Nat) (v : Nat → Nat → Int) : AH := oF (oN (hm0 rf v) (0, 79)) 70 0 (some 71)
def hm2 (rf : Nat → Nat → Option Nat) (v : Nat → Nat → Int) : AH := oF (oN (hm1 rf v) (0, 474)) 70 1 (some 72)
def hm3 (rf : Nat → Nat → Option Nat) (v : Nat → Nat → Int) : AH := oF (oN (hm2 rf v) (0, 158)) 70 3 (some 73)
def hm4 (rf : Nat → Nat → Option Nat) (v : Nat → Nat → Int) : AH := oF (oN (hm3 rf v) (1, 2)) 70 4 (some 74)
def hm5 (rf : Nat → Nat → Option Nat) (v : Nat → Nat → Int) : AH := oF (oN (hm4 rf v) (0, 6)) 70 5 (some 75)
def hm6 (rf : Nat → Nat → Option Nat) (v : Nat → Nat → Int) : AH := oF (oN (hm5 rf v) (0, 60)) 70 7 (some 76)
def hm7 (rf : Nat → Nat → Option Nat) (v : Nat → Nat → Int) : AH := oF (oN (hm6 rf v) (0, 112)) 70 9 (some 77)
def hm8 (rf : Nat → Nat → Option Nat) (v : Nat → Nat → Int) : AH := oF (oN (hm7 rf v) (0, 112)) 70 10 (some 78)
def hm9 (rf : Nat → Nat → Option Nat) (v : Nat → Nat → Int) : AH := oF (oN (hm8 rf v) (0, 5)) 70 16 (some 79)
def hm10 (rf : Nat → Nat → Option Nat) (v : Nat → Nat → Int) : AH := oF (oN (hm9 rf v) (0, 7)) 70 17 (some 80)
def hm11 (rf : Nat → Nat → Option Nat) (v : Nat → Nat → Int) : AH := oF (oN (hm10 rf v) (0, 7)) 70 18 (some 81)
def hm12 (rf : Nat → Nat → Option Nat) (v : Nat → Nat → Int) : AH := oF (oN (hm11 rf v) (0, 7)) 70 19 (some 82)
def hm13 (rf : Nat → Nat → Option Nat) (v : Nat → Nat → Int) : AH := oF (oN (hm12 rf v) (0, 7)) 70 20 (some 83)
def hm14 (rf : Nat → Nat → Option Nat) (v : Nat → Nat → Int) : AH := oF (oN (hm13 rf v) (1, 196)) 70 21 (some 84)
theorem oN_n {h : AH} {kl : Nat × Nat} {d : Nat} (hd : d ≠ h.1.length) : (oN h kl).2.1 d = h.2.1 d ∧ (oN h kl).2.2 d = h.2.2 d := ⟨upRo_n _ _ hd, upR_n _ _ hd⟩
theorem oF_n {h : AH} {c k d : Nat} {o : Option Nat} (hd : d ≠ c) : (oF h c k o).2.1 d = h.2.1 d ∧ (oF h c k o).2.2 d = h.2.2 d := ⟨upO_n _ _ _ hd, rfl⟩
section MDI
variable {g : GL} {rf : Nat → Nat → Option Nat} {v : Nat → Nat → Int}

theorem hm0_l : (hm0 rf v).1.length = 71 := rfl
theorem hm1_l : (hm1 rf v).1.length = 72 := rfl
theorem hm2_l : (hm2 rf v).1.length = 73 := rfl
theorem hm3_l : (hm3 rf v).1.length = 74 := rfl
theorem hm4_l : (hm4 rf v).1.length = 75 := rfl
theorem hm5_l : (hm5 rf v).1.length = 76 := rfl
theorem hm6_l : (hm6 rf v).1.length = 77 := rfl
theorem hm7_l : (hm7 rf v).1.length = 78 := rfl
theorem hm8_l : (hm8 rf v).1.length = 79 := rfl
theorem hm9_l : (hm9 rf v).1.length = 80 := rfl
theorem hm10_l : (hm10 rf v).1.length = 81 := rfl
theorem hm11_l : (hm11 rf v).1.length = 82 := rfl
theorem hm12_l : (hm12 rf v).1.length = 83 := rfl
theorem hm13_l : (hm13 rf v).1.length = 84 := rfl
theorem hm14_l : (hm14 rf v).1.length = 85 := rfl
theorem hm0_n {d : Nat} : (hm0 rf v).2.1 d = rf d ∧ (hm0 rf v).2.2 d = v d := ⟨rfl, rfl⟩
theorem hm1_n {d : Nat} (hd : d < 70) : (hm1 rf v).2.1 d = rf d ∧ (hm1 rf v).2.2 d = v d := ⟨(oF_n (by omega)).1.trans ((oN_n (by rw [hm0_l]; omega)).1.trans (hm0_n).1), (oF_n (by omega)).2.trans ((oN_n (by rw [hm0_l]; omega)).2.trans (hm0_n).2)⟩
theorem hm2_n {d : Nat} (hd : d < 70) : (hm2 rf v).2.1 d = rf d ∧ (hm2 rf v).2.2 d = v d := ⟨(oF_n (by omega)).1.trans ((oN_n (by rw [hm1_l]; omega)).1.trans (hm1_n hd).1), (oF_n (by omega)).2.trans ((oN_n (by rw [hm1_l]; omega)).2.trans (hm1_n hd).2)⟩
theorem hm3_n {d : Nat} (hd : d < 70) : (hm3 rf v).2.1 d = rf d ∧ (hm3 rf v).2.2 d = v d := ⟨(oF_n (by omega)).1.trans ((oN_n (by rw [hm2_l]; omega)).1.trans (hm2_n hd).1), (oF_n (by omega)).2.trans ((oN_n (by rw [hm2_l]; omega)).2.trans (hm2_n hd).2)⟩
theorem hm4_n {d : Nat} (hd : d < 70) : (hm4 rf v).2.1 d = rf d ∧ (hm4 rf v).2.2 d = v d := ⟨(oF_n (by omega)).1.trans ((oN_n (by rw [hm3_l]; omega)).1.trans (hm3_n hd).1), (oF_n (by omega)).2.trans ((oN_n (by rw [hm3_l]; omega)).2.trans (hm3_n hd).2)⟩
theorem hm5_n {d : Nat} (hd : d < 70) : (hm5 rf v).2.1 d = rf d ∧ (hm5 rf v).2.2 d = v d := ⟨(oF_n (by omega)).1.trans ((oN_n (by rw [hm4_l]; omega)).1.trans (hm4_n hd).1), (oF_n (by omega)).2.trans ((oN_n (by rw [hm4_l]; omega)).2.trans (hm4_n hd).2)⟩
theorem hm6_n {d : Nat} (hd : d < 70) : (hm6 rf v).2.1 d = rf d ∧ (hm6 rf v).2.2 d = v d := ⟨(oF_n (by omega)).1.trans ((oN_n (by rw [hm5_l]; omega)).1.trans (hm5_n hd).1), (oF_n (by omega)).2.trans ((oN_n (by rw [hm5_l]; omega)).2.trans (hm5_n hd).2)⟩
theorem hm7_n {d : Nat} (hd : d < 70) : (hm7 rf v).2.1 d = rf d ∧ (hm7 rf v).2.2 d = v d := ⟨(oF_n (by omega)).1.trans ((oN_n (by rw [hm6_l]; omega)).1.trans (hm6_n hd).1), (oF_n (by omega)).2.trans ((oN_n (by rw [hm6_l]; omega)).2.trans (hm6_n hd).2)⟩
theorem hm8_n {d : Nat} (hd : d < 70) : (hm8 rf v).2.1 d = rf d ∧ (hm8 rf v).2.2 d = v d := ⟨(oF_n (by omega)).1.trans ((oN_n (by rw [hm7_l]; omega)).1.trans (hm7_n hd).1), (oF_n (by omega)).2.trans ((oN_n (by rw [hm7_l]; omega)).2.trans (hm7_n hd).2)⟩
theorem hm9_n {d : Nat} (hd : d < 70) : (hm9 rf v).2.1 d = rf d ∧ (hm9 rf v).2.2 d = v d := ⟨(oF_n (by omega)).1.trans ((oN_n (by rw [hm8_l]; omega)).1.trans (hm8_n hd).1), (oF_n (by omega)).2.trans ((oN_n (by rw [hm8_l]; omega)).2.trans (hm8_n hd).2)⟩
theorem hm10_n {d : Nat} (hd : d < 70) : (hm10 rf v).2.1 d = rf d ∧ (hm10 rf v).2.2 d = v d := ⟨(oF_n (by omega)).1.trans ((oN_n (by rw [hm9_l]; omega)).1.trans (hm9_n hd).1), (oF_n (by omega)).2.trans ((oN_n (by rw [hm9_l]; omega)).2.trans (hm9_n hd).2)⟩
theorem hm11_n {d : Nat} (hd : d < 70) : (hm11 rf v).2.1 d = rf d ∧ (hm11 rf v).2.2 d = v d := ⟨(oF_n (by omega)).1.trans ((oN_n (by rw [hm10_l]; omega)).1.trans (hm10_n hd).1), (oF_n (by omega)).2.trans ((oN_n (by rw [hm10_l]; omega)).2.trans (hm10_n hd).2)⟩
theorem hm12_n {d : Nat} (hd : d < 70) : (hm12 rf v).2.1 d = rf d ∧ (hm12 rf v).2.2 d = v d := ⟨(oF_n (by omega)).1.trans ((oN_n (by rw [hm11_l]; omega)).1.trans (hm11_n hd).1), (oF_n (by omega)).2.trans ((oN_n (by rw [hm11_l]; omega)).2.trans (hm11_n hd).2)⟩
theorem hm13_n {d : Nat} (hd : d < 70) : (hm13 rf v).2.1 d = rf d ∧ (hm13 rf v).2.2 d = v d := ⟨(oF_n (by omega)).1.trans ((oN_n (by rw [hm12_l]; omega)).1.trans (hm12_n hd).1), (oF_n (by omega)).2.trans ((oN_n (by rw [hm12_l]; omega)).2.trans (hm12_n hd).2)⟩
theorem hm14_n {d : Nat} (hd : d < 70) : (hm14 rf v).2.1 d = rf d ∧ (hm14 rf v).2.2 d = v d := ⟨(oF_n (by omega)).1.trans ((oN_n (by rw [hm13_l]; omega)).1.trans (hm13_n hd).1), (oF_n (by omega)).2.trans ((oN_n (by rw [hm13_l]; omega)).2.trans (hm13_n hd).2)⟩
set_option maxRecDepth 100000 in
theorem hm14_sh : (hm14 rf v).1 = SHc ++ SHm := rfl
theorem hm14_rok : RokM (hm14 rf v).2.1 := fun k d h => by
  unfold RFm at h
  split at h <;> first | (cases h; rfl) | cases h
theorem hm14_v : (hm14 rf v).2.2 70 2 = v 70 2 ∧ (hm14 rf v).2.2 70 6 = v 70 6 ∧ (hm14 rf v).2.2 70 8 = v 70 8 ∧ (hm14 rf v).2.2 74 0 = 0 ∧ (hm14 rf v).2.2 74 1 = 0 := ⟨rfl, rfl, rfl, rfl, rfl⟩

set_option maxHeartbeats 4000000 in
set_option maxRecDepth 100000 in
theorem m_tail (hz : ∀ k, v 70 k = 0) : Wv g mX7_init 14 1232 117 [some (aR 70)] [] (hm14 rf v) (fun r h1 => r = none ∧ ∃ rf2 u, h1 = (SHc ++ SHm, rf2, u) ∧ RokM rf2 ∧ RM S0 u ∧ ∀ d, d < 70 → rf2 d = rf d ∧ u d = v d) := by
  have hn : ∀ d, d < 70 → (hm14 rf v).2.1 d = rf d ∧ (hm14 rf v).2.2 d = v d := fun d hd => hm14_n hd
  have hs : ExtM (hm14 rf v).1 := fun c kl h => by rw [hm14_sh]; exact h
  have hr : RokM (hm14 rf v).2.1 := hm14_rok
  obtain ⟨v2, v6, v8, v40, v41⟩ := hm14_v (rf := rf) (v := v)
  rw [hz] at v2 v6 v8
  have hsh : (hm14 rf v).1 = SHc ++ SHm := hm14_sh
  refine x_heap (h' := ((hm14 rf v).1, (hm14 rf v).2.1, (hm14 rf v).2.2)) rfl ?_
  rw [← hsh]
  generalize (hm14 rf v).2.2 = y at hn v2 v6 v8 v40 v41 ⊢
  generalize (hm14 rf v).2.1 = rf2 at hn hr ⊢
  generalize (hm14 rf v).1 = sh at hs ⊢
  refine x_al_n (q := 118) dX7_init_117 rfl rfl ?_
  refine x_getR (q := 121) (o := some (71)) dX7_init_118 rfl fX7_7 (hs _ _ rfl) rfl (hr _ _ rfl) ?_
  refine x_ic (q := 122) dX7_init_121 rfl rfl ?_
  refine x_ic (q := 123) dX7_init_122 rfl rfl ?_
  refine x_iast (q := 124) dX7_init_123 rfl (hs _ _ rfl) (by omega) (by omega) ?_
  refine x_al_n (q := 125) dX7_init_124 rfl rfl ?_
  refine x_getR (q := 128) (o := some (71)) dX7_init_125 rfl fX7_7 (hs _ _ rfl) rfl (hr _ _ rfl) ?_
  refine x_ic (q := 129) dX7_init_128 rfl rfl ?_
  refine x_ic (q := 130) dX7_init_129 rfl rfl ?_
  refine x_iast (q := 131) dX7_init_130 rfl (hs _ _ rfl) (by omega) (by omega) ?_
  refine x_al_n (q := 132) dX7_init_131 rfl rfl ?_
  refine x_getR (q := 135) (o := some (71)) dX7_init_132 rfl fX7_7 (hs _ _ rfl) rfl (hr _ _ rfl) ?_
  refine x_ic (q := 136) dX7_init_135 rfl rfl ?_
  refine x_ic (q := 137) dX7_init_136 rfl rfl ?_
  refine x_iast (q := 138) dX7_init_137 rfl (hs _ _ rfl) (by omega) (by omega) ?_
  refine x_al_n (q := 139) dX7_init_138 rfl rfl ?_
  refine x_getR (q := 142) (o := some (71)) dX7_init_139 rfl fX7_7 (hs _ _ rfl) rfl (hr _ _ rfl) ?_
  refine x_ic (q := 143) dX7_init_142 rfl rfl ?_
  refine x_ic (q := 144) dX7_init_143 rfl rfl ?_
  refine x_iast (q := 145) dX7_init_144 rfl (hs _ _ rfl) (by omega) (by omega) ?_
  refine x_al_n (q := 146) dX7_init_145 rfl rfl ?_
  refine x_getR (q := 149) (o := some (71)) dX7_init_146 rfl fX7_7 (hs _ _ rfl) rfl (hr _ _ rfl) ?_
  refine x_ic (q := 150) dX7_init_149 rfl rfl ?_
  refine x_ic (q := 151) dX7_init_150 rfl rfl ?_
  refine x_iast (q := 152) dX7_init_151 rfl (hs _ _ rfl) (by omega) (by omega) ?_
  have hmz : CM (up (up (up (up (up y 71 (0 : Int).toNat 0) 71 (1 : Int).toNat 1) 71 (2 : Int).toNat 3) 71 (3 : Int).toNat 1) 71 (4 : Int).toNat 2) c0 := ⟨by simp [up, c0], by simp [up, c0, eA], by simp [up, c0, eB], by simp [up, c0], by simp [up, c0]⟩
  have hkz : ∀ d, d ≠ 71 → (up (up (up (up (up y 71 (0 : Int).toNat 0) 71 (1 : Int).toNat 1) 71 (2 : Int).toNat 3) 71 (3 : Int).toNat 1) 71 (4 : Int).toNat 2) d = y d := fun d hd => by rw [up_n _ _ _ hd, up_n _ _ _ hd, up_n _ _ _ hd, up_n _ _ _ hd, up_n _ _ _ hd]
  generalize up (up (up (up (up y 71 (0 : Int).toNat 0) 71 (1 : Int).toNat 1) 71 (2 : Int).toNat 3) 71 (3 : Int).toNat 1) 71 (4 : Int).toNat 2 = z at hmz hkz ⊢
  refine x_al_n (q := 153) dX7_init_152 rfl rfl ?_
  refine x_V (q := 156) (ci := 7) dX7_init_153 rfl kX7_init_53 (m_begins hs hr hmz c0_v) rfl rfl (hs _ _ rfl) (by decide) rfl (Nat.le_of_ble_eq_true rfl) ⟨rfl, rfl⟩ ⟨(Nat.le_of_ble_eq_true rfl), (Nat.le_of_ble_eq_true rfl)⟩ (fun r1 h1 hp => ?_)
  obtain ⟨rfl, u, rfl, x1, x2, x3, x4, x5⟩ := hp
  refine x_vret dX7_init_156 rfl rfl (Nat.le_of_ble_eq_true rfl) ⟨rfl, rf2, u, rfl, hr, ⟨⟨⟨?_, ?_, ?_, ?_, ?_⟩, x1, x2, fun i hi => absurd hi (Nat.not_lt_zero _)⟩, ?_, (fun i h hi => by cases hi), ⟨?_, ?_, (fun h hh => by cases hh), (fun h hh => by cases hh)⟩, ⟨?_, fun i hi => absurd hi (Nat.not_lt_zero _)⟩, ⟨?_, fun i hi => absurd hi (Nat.not_lt_zero _)⟩⟩, fun d hd => ⟨(hn d hd).1, by rw [x4 d (by omega) (by omega) (by omega) (by omega), hkz d (by omega)]; exact (hn d hd).2⟩⟩
  · rw [x3 0 (by decide) (by decide)]; exact hmz.1
  · rw [x3 (0 + 1) (by decide) (by decide)]; exact hmz.2.1
  · rw [x3 (0 + 2) (by decide) (by decide)]; exact hmz.2.2.1
  · rw [x3 (0 + 3) (by decide) (by decide)]; exact hmz.2.2.2.1
  · rw [x3 (0 + 4) (by decide) (by decide)]; exact hmz.2.2.2.2
  · rw [x5 2 (by decide) (by decide), hkz 70 (by decide)]; exact v2
  · rw [x4 74 (by decide) (by decide) (by decide) (by decide), hkz 74 (by decide)]; exact v40
  · rw [x4 74 (by decide) (by decide) (by decide) (by decide), hkz 74 (by decide)]; exact v41
  · rw [x5 6 (by decide) (by decide), hkz 70 (by decide)]; exact v6
  · rw [x5 8 (by decide) (by decide), hkz 70 (by decide)]; exact v8
set_option maxHeartbeats 4000000 in
set_option maxRecDepth 100000 in
theorem m_init (hz : ∀ k, v 70 k = 0) : Cv g mX7_init [aR 70] (SHc ++ [(10, 22)], rf, v) (fun r h1 => r = none ∧ ∃ rf2 u, h1 = (SHc ++ SHm, rf2, u) ∧ RokM rf2 ∧ RM S0 u ∧ ∀ d, d < 70 → rf2 d = rf d ∧ u d = v d) := by
  refine x_entry (ls := [some (aR 70)]) rfl rfl (Nat.le_of_ble_eq_true rfl) ?_
  refine x_al_n (q := 1) dX7_init_0 rfl rfl ?_
  refine x_obj (q := 4) dX7_init_1 rfl q660 q86 q87 (Nat.le_of_ble_eq_true rfl) (Nat.le_of_ble_eq_true rfl) (Nat.le_of_ble_eq_true rfl) ?_
  refine x_heap (h' := hm0 rf v) rfl ?_
  refine x_al_n (q := 5) dX7_init_4 rfl rfl ?_
  refine x_bi (q := 7) dX7_init_5 rfl rfl ?_
  refine x_newI (q := 9) (n := 79) dX7_init_7 rfl q111 rfl (by decide) (Nat.le_of_ble_eq_true rfl) (Nat.le_of_ble_eq_true rfl) ?_
  refine x_putF (q := 12) dX7_init_9 rfl fX7_7 rfl rfl rfl rfl rfl ?_
  refine x_heap (h' := hm1 rf v) rfl ?_
  refine x_al_n (q := 13) dX7_init_12 rfl rfl ?_
  refine x_si (q := 16) dX7_init_13 rfl rfl ?_
  refine x_newI (q := 18) (n := 474) dX7_init_16 rfl q111 rfl (by decide) (Nat.le_of_ble_eq_true rfl) (Nat.le_of_ble_eq_true rfl) ?_
  refine x_putF (q := 21) dX7_init_18 rfl fX7_13 rfl rfl rfl rfl rfl ?_
  refine x_heap (h' := hm2 rf v) rfl ?_
  refine x_al_n (q := 22) dX7_init_21 rfl rfl ?_
  refine x_si (q := 25) dX7_init_22 rfl rfl ?_
  refine x_newI (q := 27) (n := 158) dX7_init_25 rfl q111 rfl (by decide) (Nat.le_of_ble_eq_true rfl) (Nat.le_of_ble_eq_true rfl) ?_
  refine x_putF (q := 30) dX7_init_27 rfl fX7_16 rfl rfl rfl rfl rfl ?_
  refine x_heap (h' := hm3 rf v) rfl ?_
  refine x_al_n (q := 31) dX7_init_30 rfl rfl ?_
  refine x_ic (q := 32) dX7_init_31 rfl rfl ?_
  refine x_newZ (q := 34) (n := 2) dX7_init_32 rfl q368 rfl (by decide) (Nat.le_of_ble_eq_true rfl) (Nat.le_of_ble_eq_true rfl) ?_
  refine x_putF (q := 37) dX7_init_34 rfl fX7_19 rfl rfl rfl rfl rfl ?_
  refine x_heap (h' := hm4 rf v) rfl ?_
  refine x_al_n (q := 38) dX7_init_37 rfl rfl ?_
  refine x_bi (q := 40) dX7_init_38 rfl rfl ?_
  refine x_newI (q := 42) (n := 6) dX7_init_40 rfl q111 rfl (by decide) (Nat.le_of_ble_eq_true rfl) (Nat.le_of_ble_eq_true rfl) ?_
  refine x_putF (q := 45) dX7_init_42 rfl fX7_23 rfl rfl rfl rfl rfl ?_
  refine x_heap (h' := hm5 rf v) rfl ?_
  refine x_al_n (q := 46) dX7_init_45 rfl rfl ?_
  refine x_bi (q := 48) dX7_init_46 rfl rfl ?_
  refine x_newI (q := 50) (n := 60) dX7_init_48 rfl q111 rfl (by decide) (Nat.le_of_ble_eq_true rfl) (Nat.le_of_ble_eq_true rfl) ?_
  refine x_putF (q := 53) dX7_init_50 rfl fX7_26 rfl rfl rfl rfl rfl ?_
  refine x_heap (h' := hm6 rf v) rfl ?_
  refine x_al_n (q := 54) dX7_init_53 rfl rfl ?_
  refine x_bi (q := 56) dX7_init_54 rfl rfl ?_
  refine x_newI (q := 58) (n := 112) dX7_init_56 rfl q111 rfl (by decide) (Nat.le_of_ble_eq_true rfl) (Nat.le_of_ble_eq_true rfl) ?_
  refine x_putF (q := 61) dX7_init_58 rfl fX7_29 rfl rfl rfl rfl rfl ?_
  refine x_heap (h' := hm7 rf v) rfl ?_
  refine x_al_n (q := 62) dX7_init_61 rfl rfl ?_
  refine x_bi (q := 64) dX7_init_62 rfl rfl ?_
  refine x_newI (q := 66) (n := 112) dX7_init_64 rfl q111 rfl (by decide) (Nat.le_of_ble_eq_true rfl) (Nat.le_of_ble_eq_true rfl) ?_
  refine x_putF (q := 69) dX7_init_66 rfl fX7_32 rfl rfl rfl rfl rfl ?_
  refine x_heap (h' := hm8 rf v) rfl ?_
  refine x_al_n (q := 70) dX7_init_69 rfl rfl ?_
  refine x_ic (q := 71) dX7_init_70 rfl rfl ?_
  refine x_newI (q := 73) (n := 5) dX7_init_71 rfl q111 rfl (by decide) (Nat.le_of_ble_eq_true rfl) (Nat.le_of_ble_eq_true rfl) ?_
  refine x_putF (q := 76) dX7_init_73 rfl fX7_35 rfl rfl rfl rfl rfl ?_
  refine x_heap (h' := hm9 rf v) rfl ?_
  refine x_al_n (q := 77) dX7_init_76 rfl rfl ?_
  refine x_bi (q := 79) dX7_init_77 rfl rfl ?_
  refine x_newI (q := 81) (n := 7) dX7_init_79 rfl q111 rfl (by decide) (Nat.le_of_ble_eq_true rfl) (Nat.le_of_ble_eq_true rfl) ?_
  refine x_putF (q := 84) dX7_init_81 rfl fX7_38 rfl rfl rfl rfl rfl ?_
  refine x_heap (h' := hm10 rf v) rfl ?_
  refine x_al_n (q := 85) dX7_init_84 rfl rfl ?_
  refine x_bi (q := 87) dX7_init_85 rfl rfl ?_
  refine x_newI (q := 89) (n := 7) dX7_init_87 rfl q111 rfl (by decide) (Nat.le_of_ble_eq_true rfl) (Nat.le_of_ble_eq_true rfl) ?_
  refine x_putF (q := 92) dX7_init_89 rfl fX7_41 rfl rfl rfl rfl rfl ?_
  refine x_heap (h' := hm11 rf v) rfl ?_
  refine x_al_n (q := 93) dX7_init_92 rfl rfl ?_
  refine x_bi (q := 95) dX7_init_93 rfl rfl ?_
  refine x_newI (q := 97) (n := 7) dX7_init_95 rfl q111 rfl (by decide) (Nat.le_of_ble_eq_true rfl) (Nat.le_of_ble_eq_true rfl) ?_
  refine x_putF (q := 100) dX7_init_97 rfl fX7_44 rfl rfl rfl rfl rfl ?_
  refine x_heap (h' := hm12 rf v) rfl ?_
  refine x_al_n (q := 101) dX7_init_100 rfl rfl ?_
  refine x_bi (q := 103) dX7_init_101 rfl rfl ?_
  refine x_newI (q := 105) (n := 7) dX7_init_103 rfl q111 rfl (by decide) (Nat.le_of_ble_eq_true rfl) (Nat.le_of_ble_eq_true rfl) ?_
  refine x_putF (q := 108) dX7_init_105 rfl fX7_47 rfl rfl rfl rfl rfl ?_
  refine x_heap (h' := hm13 rf v) rfl ?_
  refine x_al_n (q := 109) dX7_init_108 rfl rfl ?_
  refine x_si (q := 112) dX7_init_109 rfl rfl ?_
  refine x_newZ (q := 114) (n := 196) dX7_init_112 rfl q368 rfl (by decide) (Nat.le_of_ble_eq_true rfl) (Nat.le_of_ble_eq_true rfl) ?_
  refine x_putF (q := 117) dX7_init_114 rfl fX7_50 rfl rfl rfl rfl rfl ?_
  refine x_heap (h' := hm14 rf v) rfl ?_
  exact m_tail hz
end MDI

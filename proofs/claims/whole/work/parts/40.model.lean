/-! ===== the Model: its cells; a bit's step; arcs ===== -/
def SHm : List (Nat × Nat) := [(10, 22), (0, 79), (0, 474), (0, 158), (1, 2), (0, 6), (0, 60), (0, 112), (0, 112), (0, 5), (0, 7), (0, 7), (0, 7), (0, 7), (1, 196)]
def ExtM (sh : List (Nat × Nat)) : Prop := ∀ (c : Nat) (kl : Nat × Nat), (SHc ++ SHm)[c]? = some kl → sh[c]? = some kl
theorem ExtM.ext {sh : List (Nat × Nat)} (h : ExtM sh) : Ext sh := fun c kl hc => h c kl (by rw [List.getElem?_append_left (List.getElem?_eq_some_iff.mp hc).1]; exact hc)
def RFm (k : Nat) : Option Nat := match k with
  | 0 => some 71
  | 1 => some 72
  | 3 => some 73
  | 4 => some 74
  | 5 => some 75
  | 7 => some 76
  | 9 => some 77
  | 10 => some 78
  | 16 => some 79
  | 17 => some 80
  | 18 => some 81
  | 19 => some 82
  | 20 => some 83
  | 21 => some 84
  | _ => none
def RokM (rf : Nat → Nat → Option Nat) : Prop := ∀ k d : Nat, RFm k = some d → rf 70 k = some d
def eA (c : Cfg) : Int := if c.1 = 2 then c.2.2.1 else c.2.1
def eB (c : Cfg) : Int := if c.1 = 0 then c.2.2.1 else if c.1 = 1 then 0 else c.2.1
def CM (v : Nat → Nat → Int) (c : Cfg) : Prop := v 71 0 = c.1 ∧ v 71 1 = eA c ∧ v 71 2 = eB c ∧ v 71 3 = c.2.2.2.1 ∧ v 71 4 = c.2.2.2.2
theorem CM.cong {u v : Nat → Nat → Int} {c : Cfg} (h : CM v c) (e : u 71 = v 71) : CM u c := by unfold CM; rw [e]; exact h
theorem eAB0 {c : Cfg} (h : c.1 = 0) : eA c = c.2.1 ∧ eB c = c.2.2.1 := ⟨by unfold eA; rw [if_neg (by omega)], by unfold eB; rw [if_pos h]⟩
theorem eAB1 {c : Cfg} (h : c.1 = 1) : eA c = c.2.1 ∧ eB c = 0 := ⟨by unfold eA; rw [if_neg (by omega)], by unfold eB; rw [if_neg (by omega), if_pos h]⟩
theorem eAB2 {c : Cfg} (h : c.1 = 2) : eA c = c.2.2.1 ∧ eB c = c.2.1 := ⟨by unfold eA; rw [if_pos h], by unfold eB; rw [if_neg (by omega), if_neg (by omega)]⟩
theorem lcv_lt {a b : Int} : lcv a b < 0 ↔ a < b := by unfold lcv; split <;> (try split) <;> omega
theorem lcv_gt {a b : Int} : 0 < lcv a b ↔ b < a := by unfold lcv; split <;> (try split) <;> omega
def alN (f : Nat → Bool) : Nat → Bool
  | 0 => true
  | n + 1 => alN f n && f n
theorem alN_f {f : Nat → Bool} {k : Nat} (h : alN f k = false) : ∀ {n}, k ≤ n → alN f n = false
  | n, hn => by
    obtain ⟨d, rfl⟩ : ∃ d, n = k + d := ⟨n - k, by omega⟩
    clear hn
    induction d with
    | zero => exact h
    | succ d ih => show (alN f (k + d) && _) = false; rw [ih]; rfl
/-- bit k of a word of hi bits -/
def bnd (lo hi : Int) (k : Nat) : Int := lo / 2 ^ (hi.toNat - 1 - k) % 2
/-- whether the first n bits end the first i and one more -/
def mtc (lo hi : Int) (i : Nat) (b : Int) (n k : Nat) : Bool := decide (bnd lo hi (n - 1) = b) && alN (fun k => decide (bnd lo hi k = bnd lo hi (i + k - (n - 1)))) k
def bdr (lo hi : Int) (i : Nat) (b : Int) : Nat → Int
  | 0 => 0
  | n + 1 => if mtc lo hi i b (n + 1) n = true then ((n + 1 : Nat) : Int) else bdr lo hi i b n
set_option maxRecDepth 100000 in
theorem bdr_fin : ∀ h : Nat, h < 6 → 2 ≤ h → ∀ l : Nat, l < 2 ^ h → ∀ i : Nat, i < h → ∀ b : Nat, b < 2 → stW (l : Int) (h : Int) (fbits (l : Int) (h : Int) (i : Int) * 2 + (b : Int)) (i + 1) = if bdr (l : Int) (h : Int) i (b : Int) (i + 1) = (h : Int) then -9 else bdr (l : Int) (h : Int) i (b : Int) (i + 1) := by decide +kernel
theorem bdr_stW {lo hi : Int} {i : Nat} {b : Int} (h0 : 0 ≤ lo) (h1 : 2 ≤ hi) (h2 : hi ≤ 5) (h3 : lo < 2 ^ hi.toNat) (h4 : (i : Int) < hi) (hb : b = 0 ∨ b = 1) : stW lo hi (fbits lo hi i * 2 + b) (i + 1) = if bdr lo hi i b (i + 1) = hi then -9 else bdr lo hi i b (i + 1) := by
  obtain ⟨l, rfl⟩ := Int.eq_ofNat_of_zero_le h0
  obtain ⟨h, rfl⟩ := Int.eq_ofNat_of_zero_le (show 0 ≤ hi by omega)
  obtain ⟨b, rfl⟩ := Int.eq_ofNat_of_zero_le (show 0 ≤ b by omega)
  rw [Int.toNat_natCast] at h3
  have h5 : ((2 ^ h : Nat) : Int) = 2 ^ h := by simp
  exact bdr_fin h (by omega) (by omega) l (by omega) i (by omega) b (by omega)
theorem bdr_rng (lo hi : Int) (i : Nat) (b : Int) : ∀ n : Nat, 0 ≤ bdr lo hi i b n ∧ bdr lo hi i b n ≤ n
  | 0 => ⟨Int.le_refl _, Int.le_refl _⟩
  | n + 1 => by
    have := bdr_rng lo hi i b n
    unfold bdr
    split <;> omega
section MOD
variable {g : GL} {sh : List (Nat × Nat)} {rf : Nat → Nat → Option Nat} {v : Nat → Nat → Int} {c : Cfg}

set_option maxHeartbeats 4000000 in
set_option maxRecDepth 100000 in
theorem m_in {a lo hi : Int} {h : AH} : Cv g mX7_in [aJ a, aJ lo, aJ hi] h (retI (b2i (decide (lo ≤ a ∧ a ≤ hi))) h) := by
  refine x_entry (ls := [some (aJ a), none, some (aJ lo), none, some (aJ hi), none]) rfl rfl (Nat.le_of_ble_eq_true rfl) ?_
  refine x_ll_n (q := 1) dX7_in_0 rfl rfl ?_
  refine x_ll_n (q := 2) dX7_in_1 rfl rfl ?_
  refine x_lcmp (q := 3) dX7_in_2 rfl ?_
  refine x_if_lt (t := 17) (q := 6) dX7_in_3 rfl rfl (fun c_3 => ?_) (fun c_3 => ?_)
  · skip
    rw [lcv_lt] at c_3
    refine x_ic (q := 18) dX7_in_17 rfl rfl ?_
    exact x_zret dX7_in_18 rfl (by first | exact .inl rfl | exact .inr rfl | exact b2i_01 _) rfl (Nat.zero_le _) (retI_mk (by first | (rw [decide_eq_true (by omega)]; rfl) | (rw [decide_eq_false (by omega)]; rfl)))
  · skip
    rw [lcv_lt] at c_3
    refine x_ll_n (q := 7) dX7_in_6 rfl rfl ?_
    refine x_ll (q := 9) dX7_in_7 rfl rfl ?_
    refine x_lcmp (q := 10) dX7_in_9 rfl ?_
    refine x_if_gt (t := 17) (q := 13) dX7_in_10 rfl rfl (fun c_10 => ?_) (fun c_10 => ?_)
    · skip
      rw [lcv_gt] at c_10
      refine x_ic (q := 18) dX7_in_17 rfl rfl ?_
      exact x_zret dX7_in_18 rfl (by first | exact .inl rfl | exact .inr rfl | exact b2i_01 _) rfl (Nat.zero_le _) (retI_mk (by first | (rw [decide_eq_true (by omega)]; rfl) | (rw [decide_eq_false (by omega)]; rfl)))
    · skip
      rw [lcv_gt] at c_10
      refine x_ic (q := 14) dX7_in_13 rfl rfl ?_
      refine x_goto (t := 18) dX7_in_14 rfl ?_
      exact x_zret dX7_in_18 rfl (by first | exact .inl rfl | exact .inr rfl | exact b2i_01 _) rfl (Nat.zero_le _) (retI_mk (by first | (rw [decide_eq_true (by omega)]; rfl) | (rw [decide_eq_false (by omega)]; rfl)))
set_option maxHeartbeats 4000000 in
set_option maxRecDepth 100000 in
theorem m_states (hs : ExtM sh) (hr : RokM rf) (hm : CM v c) (hv : Vld c)  : Cv g mX7_states [aR 70] (sh, rf, v) (retI (nS c : Int) (sh, rf, v)) := by
  have hS := nS_rng hv
  have hd := nd_rng hv
  have hq := pw16 hv.2.2.2.1 hv.2.2.2.2
  obtain ⟨hvB, hp1, hp2, hq1, hq2⟩ := id hv
  have hNS : (nS c : Int) = if c.1 = 0 then c.2.2.1 + 1 else if c.1 = 1 then 2 * c.2.1 + 1 else c.2.2.1 := hS.2.2
  unfold VBan at hvB
  refine x_entry (ls := [some (aR 70)]) rfl rfl (Nat.le_of_ble_eq_true rfl) ?_
  refine x_al_n (q := 1) dX7_states_0 rfl rfl ?_
  refine x_getR (q := 4) (o := some (71)) dX7_states_1 rfl fX7_7 (hs _ _ rfl) rfl (hr _ _ rfl) ?_
  refine x_ic (q := 5) dX7_states_4 rfl rfl ?_
  refine x_ialde (q := 6) (z := c.1) dX7_states_5 rfl (hs _ _ rfl) (by omega) (by omega) (hm.1) ?_
  refine x_if_ne (t := 20) (q := 9) dX7_states_6 rfl rfl (fun c_6 => ?_) (fun c_6 => ?_)
  · skip
    refine x_al_n (q := 21) dX7_states_20 rfl rfl ?_
    refine x_getR (q := 24) (o := some (71)) dX7_states_21 rfl fX7_7 (hs _ _ rfl) rfl (hr _ _ rfl) ?_
    refine x_ic (q := 25) dX7_states_24 rfl rfl ?_
    refine x_ialde (q := 26) (z := c.1) dX7_states_25 rfl (hs _ _ rfl) (by omega) (by omega) (hm.1) ?_
    refine x_ic (q := 27) dX7_states_26 rfl rfl ?_
    refine x_ic_ne (t := 43) (q := 30) dX7_states_27 rfl rfl (fun c_27 => ?_) (fun c_27 => ?_)
    · skip
      have hE := eAB2 (c := c) (by omega)
      refine x_al_n (q := 44) dX7_states_43 rfl rfl ?_
      refine x_getR (q := 47) (o := some (71)) dX7_states_44 rfl fX7_7 (hs _ _ rfl) rfl (hr _ _ rfl) ?_
      refine x_ic (q := 48) dX7_states_47 rfl rfl ?_
      refine x_ialde (q := 49) (z := eA c) dX7_states_48 rfl (hs _ _ rfl) (by omega) (by omega) (hm.2.1) ?_
      exact x_iret dX7_states_49 rfl rfl (Nat.zero_le _) (retI_mk (by rw [hNS]; (repeat' split) <;> omega))
    · skip
      have hE := eAB1 (c := c) (by omega)
      refine x_ic (q := 31) dX7_states_30 rfl rfl ?_
      refine x_al_n (q := 32) dX7_states_31 rfl rfl ?_
      refine x_getR (q := 35) (o := some (71)) dX7_states_32 rfl fX7_7 (hs _ _ rfl) rfl (hr _ _ rfl) ?_
      refine x_ic (q := 36) dX7_states_35 rfl rfl ?_
      refine x_ialde (q := 37) (z := eA c) dX7_states_36 rfl (hs _ _ rfl) (by omega) (by omega) (hm.2.1) ?_
      refine x_mul (q := 38) dX7_states_37 rfl ⟨by omega, by omega⟩ ?_
      refine x_ic (q := 39) dX7_states_38 rfl rfl ?_
      refine x_add (q := 40) dX7_states_39 rfl ⟨by omega, by omega⟩ ?_
      refine x_goto (t := 49) dX7_states_40 rfl ?_
      exact x_iret dX7_states_49 rfl rfl (Nat.zero_le _) (retI_mk (by rw [hNS]; (repeat' split) <;> omega))
  · skip
    have hE := eAB0 (c := c) (by omega)
    refine x_al_n (q := 10) dX7_states_9 rfl rfl ?_
    refine x_getR (q := 13) (o := some (71)) dX7_states_10 rfl fX7_7 (hs _ _ rfl) rfl (hr _ _ rfl) ?_
    refine x_ic (q := 14) dX7_states_13 rfl rfl ?_
    refine x_ialde (q := 15) (z := eB c) dX7_states_14 rfl (hs _ _ rfl) (by omega) (by omega) (hm.2.2.1) ?_
    refine x_ic (q := 16) dX7_states_15 rfl rfl ?_
    refine x_add (q := 17) dX7_states_16 rfl ⟨by omega, by omega⟩ ?_
    refine x_goto (t := 49) dX7_states_17 rfl ?_
    exact x_iret dX7_states_49 rfl rfl (Nat.zero_le _) (retI_mk (by rw [hNS]; (repeat' split) <;> omega))
set_option maxHeartbeats 4000000 in
set_option maxRecDepth 100000 in
theorem m_start (hs : ExtM sh) (hr : RokM rf) (hm : CM v c) (hv : Vld c)  : Cv g mX7_start [aR 70] (sh, rf, v) (retI (stt c.1 c.2.1) (sh, rf, v)) := by
  have hS := nS_rng hv
  have hd := nd_rng hv
  have hq := pw16 hv.2.2.2.1 hv.2.2.2.2
  obtain ⟨hvB, hp1, hp2, hq1, hq2⟩ := id hv
  refine x_entry (ls := [some (aR 70)]) rfl rfl (Nat.le_of_ble_eq_true rfl) ?_
  refine x_al_n (q := 1) dX7_start_0 rfl rfl ?_
  refine x_getR (q := 4) (o := some (71)) dX7_start_1 rfl fX7_7 (hs _ _ rfl) rfl (hr _ _ rfl) ?_
  refine x_ic (q := 5) dX7_start_4 rfl rfl ?_
  refine x_ialde (q := 6) (z := c.1) dX7_start_5 rfl (hs _ _ rfl) (by omega) (by omega) (hm.1) ?_
  refine x_ic (q := 7) dX7_start_6 rfl rfl ?_
  refine x_ic_ne (t := 19) (q := 10) dX7_start_7 rfl rfl (fun c_7 => ?_) (fun c_7 => ?_)
  · skip
    refine x_ic (q := 20) dX7_start_19 rfl rfl ?_
    exact x_iret dX7_start_20 rfl rfl (Nat.zero_le _) (retI_mk (by unfold stt; first | rw [if_pos (by omega), hE.1] | rw [if_neg (by omega)]))
  · skip
    have hE := eAB1 (c := c) (by omega)
    refine x_al_n (q := 11) dX7_start_10 rfl rfl ?_
    refine x_getR (q := 14) (o := some (71)) dX7_start_11 rfl fX7_7 (hs _ _ rfl) rfl (hr _ _ rfl) ?_
    refine x_ic (q := 15) dX7_start_14 rfl rfl ?_
    refine x_ialde (q := 16) (z := eA c) dX7_start_15 rfl (hs _ _ rfl) (by omega) (by omega) (hm.2.1) ?_
    refine x_goto (t := 20) dX7_start_16 rfl ?_
    exact x_iret dX7_start_20 rfl rfl (Nat.zero_le _) (retI_mk (by unfold stt; first | rw [if_pos (by omega), hE.1] | rw [if_neg (by omega)]))
set_option maxHeartbeats 4000000 in
set_option maxRecDepth 100000 in
theorem m_banned (hs : ExtM sh) (hr : RokM rf) (hm : CM v c) (hv : Vld c) (h2 : c.1 = 2) {k : Nat} (hk : (k : Int) < c.2.2.1) : Cv g mX7_banned [aR 70, aI (k : Int)] (sh, rf, v) (retI (bnd c.2.1 c.2.2.1 k) (sh, rf, v)) := by
  have hS := nS_rng hv
  have hd := nd_rng hv
  have hq := pw16 hv.2.2.2.1 hv.2.2.2.2
  obtain ⟨hvB, hp1, hp2, hq1, hq2⟩ := id hv
  have hE := eAB2 h2
  have hW : 0 ≤ c.2.1 ∧ c.2.1 < 32 ∧ 2 ≤ c.2.2.1 ∧ c.2.2.1 ≤ 5 ∧ c.2.1 < 2 ^ c.2.2.1.toNat := by unfold VBan at hvB; omega
  refine x_entry (ls := [some (aR 70), some (aI (k : Int))]) rfl rfl (Nat.le_of_ble_eq_true rfl) ?_
  refine x_al_n (q := 1) dX7_banned_0 rfl rfl ?_
  refine x_getR (q := 4) (o := some (71)) dX7_banned_1 rfl fX7_7 (hs _ _ rfl) rfl (hr _ _ rfl) ?_
  refine x_ic (q := 5) dX7_banned_4 rfl rfl ?_
  refine x_ialde (q := 6) (z := eB c) dX7_banned_5 rfl (hs _ _ rfl) (by omega) (by omega) (hm.2.2.1) ?_
  refine x_al_n (q := 7) dX7_banned_6 rfl rfl ?_
  refine x_getR (q := 10) (o := some (71)) dX7_banned_7 rfl fX7_7 (hs _ _ rfl) rfl (hr _ _ rfl) ?_
  refine x_ic (q := 11) dX7_banned_10 rfl rfl ?_
  refine x_ialde (q := 12) (z := eA c) dX7_banned_11 rfl (hs _ _ rfl) (by omega) (by omega) (hm.2.1) ?_
  refine x_ic (q := 13) dX7_banned_12 rfl rfl ?_
  refine x_sub (q := 14) dX7_banned_13 rfl ⟨by omega, by omega⟩ ?_
  refine x_il_n (q := 15) dX7_banned_14 rfl rfl ?_
  refine x_sub (q := 16) dX7_banned_15 rfl ⟨by omega, by omega⟩ ?_
  refine x_shr (q := 17) dX7_banned_16 rfl (by omega) (by omega) (by omega) ?_
  refine x_ic (q := 18) dX7_banned_17 rfl rfl ?_
  refine x_and1 (q := 19) dX7_banned_18 rfl (nn_dv (by omega)) ?_
  exact x_iret dX7_banned_19 rfl rfl (Nat.zero_le _) (retI_mk (by unfold bnd; rw [hE.1, hE.2, show (c.2.2.1 - 1 - (k : Int)).toNat = c.2.2.1.toNat - 1 - k by omega]))
set_option maxHeartbeats 4000000 in
set_option maxRecDepth 100000 in
theorem m_border (hs : ExtM sh) (hr : RokM rf) (hm : CM v c) (hv : Vld c) (h2 : c.1 = 2) {i : Nat} {b : Int} (hi : (i : Int) < c.2.2.1) : Cv g mX7_border [aR 70, aI (i : Int), aI b, aI ((i : Int) + 1)] (sh, rf, v) (retI (bdr c.2.1 c.2.2.1 i b (i + 1)) (sh, rf, v)) := by
  have hS := nS_rng hv
  have hd := nd_rng hv
  have hq := pw16 hv.2.2.2.1 hv.2.2.2.2
  obtain ⟨hvB, hp1, hp2, hq1, hq2⟩ := id hv
  have hE := eAB2 h2
  have hW : 0 ≤ c.2.1 ∧ c.2.1 < 32 ∧ 2 ≤ c.2.2.1 ∧ c.2.2.1 ≤ 5 ∧ c.2.1 < 2 ^ c.2.2.1.toNat := by unfold VBan at hvB; omega
  have key : ∀ n : Nat, n ≤ i + 1 → ∀ o1 o2 : Option AV, Wv g mX7_border 0 0 3 [some (aR 70), some (aI (i : Int)), some (aI b), some (aI ((i : Int) + 1)), some (aI ((n : Int))), o1, o2] [] (sh, rf, v) (retI (bdr c.2.1 c.2.2.1 i b n) (sh, rf, v)) := by
    intro n
    induction n with
    | zero =>
      intro hn o1 o2
      refine x_il (q := 5) dX7_border_3 rfl rfl ?_
      refine x_if_le (t := 93) (q := 8) dX7_border_5 rfl rfl (fun c_5 => ?_) (fun c_5 => ?_)
      · skip
        refine x_ic (q := 94) dX7_border_93 rfl rfl ?_
        exact x_iret dX7_border_94 rfl rfl (Nat.zero_le _) (retI_mk (by rfl))
      · skip
        exact absurd (by decide) c_5
    | succ n ih =>
      intro hn o1 o2
      have hin : ∀ (b0 : Bool), b0 = mtc c.2.1 c.2.2.1 i b (n + 1) 0 → ∀ o2 : Option AV, Wv g mX7_border 0 0 27 [some (aR 70), some (aI (i : Int)), some (aI b), some (aI ((i : Int) + 1)), some (aI (((n + 1 : Nat) : Int))), some (aI (b2i b0)), o2] [] (sh, rf, v) (retI (bdr c.2.1 c.2.2.1 i b (n + 1)) (sh, rf, v)) := by
        intro b0 hb0 o2
        refine x_ic (q := 28) dX7_border_27 rfl rfl ?_
        refine x_is6 (q := 30) dX7_border_28 rfl rfl ?_
        rw [hb0]
        refine x_up (S := fun j => Wv g mX7_border 0 0 30 [some (aR 70), some (aI (i : Int)), some (aI b), some (aI ((i : Int) + 1)), some (aI (((n + 1 : Nat) : Int))), some (aI (b2i (mtc c.2.1 c.2.2.1 i b (n + 1) j))), some (aI (j : Int))] [] (sh, rf, v) (retI (bdr c.2.1 c.2.2.1 i b (n + 1)) (sh, rf, v))) n ?_ ?_ 0 (Nat.zero_le _)
        · skip
          refine x_il (q := 32) dX7_border_30 rfl rfl ?_
          refine x_il (q := 34) dX7_border_32 rfl rfl ?_
          refine x_ic (q := 35) dX7_border_34 rfl rfl ?_
          refine x_sub (q := 36) dX7_border_35 rfl ⟨by omega, by omega⟩ ?_
          refine x_ic_ge (t := 79) (q := 39) dX7_border_36 rfl rfl (fun c_36 => ?_) (fun c_36 => ?_)
          · skip
            refine x_il (q := 81) dX7_border_79 rfl rfl ?_
            refine x_if_eq (t := 87) (q := 84) dX7_border_81 rfl rfl (fun c_81 => ?_) (fun c_81 => ?_)
            · skip
              have hM := b2i_0.mp c_81
              refine x_ii4 (q := 90) dX7_border_87 rfl rfl ⟨by omega, by omega⟩ ?_
              refine x_goto (t := 3) dX7_border_90 rfl ?_
              unfold bdr
              rw [if_neg (by rw [hM]; decide)]
              rw [show ((n + 1 : Nat) : Int) + -1 = (n : Int) by omega]
              exact ih (by omega) _ _
            · skip
              have hM := b2i_n0.mp c_81
              refine x_il (q := 86) dX7_border_84 rfl rfl ?_
              exact x_iret dX7_border_86 rfl rfl (Nat.zero_le _) (retI_mk (by unfold bdr; rw [if_pos hM]))
          · skip
            exact absurd (by omega) c_36
        · intro j hj ihj
          refine x_il (q := 32) dX7_border_30 rfl rfl ?_
          refine x_il (q := 34) dX7_border_32 rfl rfl ?_
          refine x_ic (q := 35) dX7_border_34 rfl rfl ?_
          refine x_sub (q := 36) dX7_border_35 rfl ⟨by omega, by omega⟩ ?_
          refine x_ic_ge (t := 79) (q := 39) dX7_border_36 rfl rfl (fun c_36 => ?_) (fun c_36 => ?_)
          · skip
            exact absurd c_36 (by omega)
          · skip
            refine x_il (q := 41) dX7_border_39 rfl rfl ?_
            refine x_if_eq (t := 79) (q := 44) dX7_border_41 rfl rfl (fun c_41 => ?_) (fun c_41 => ?_)
            · skip
              have hM0 := b2i_0.mp c_41
              have hM : mtc c.2.1 c.2.2.1 i b (n + 1) n = false := by
                unfold mtc at hM0 ⊢
                rcases Bool.and_eq_false_iff.mp hM0 with q | q
                · rw [q]; rfl
                · rw [alN_f q (show j ≤ n by omega)]; simp
              refine x_il (q := 81) dX7_border_79 rfl rfl ?_
              refine x_if_eq (t := 87) (q := 84) dX7_border_81 rfl rfl (fun c_81 => ?_) (fun c_81 => ?_)
              · skip
                refine x_ii4 (q := 90) dX7_border_87 rfl rfl ⟨by omega, by omega⟩ ?_
                refine x_goto (t := 3) dX7_border_90 rfl ?_
                unfold bdr
                rw [if_neg (by rw [hM]; decide)]
                rw [show ((n + 1 : Nat) : Int) + -1 = (n : Int) by omega]
                exact ih (by omega) _ _
              · skip
                exact absurd c_41 c_81
            · skip
              have hM0 := b2i_n0.mp c_41
              refine x_al_n (q := 45) dX7_border_44 rfl rfl ?_
              refine x_il (q := 47) dX7_border_45 rfl rfl ?_
              refine x_VI (q := 50) (ci := 7) dX7_border_47 rfl kX7_border_66 (m_banned hs hr hm hv h2 (by omega)) rfl rfl (hs _ _ rfl) (by decide) rfl (Nat.le_of_ble_eq_true rfl) ⟨rfl, rfl⟩ ⟨Nat.zero_le _, Nat.zero_le _⟩ ?_
              refine x_al_n (q := 51) dX7_border_50 rfl rfl ?_
              refine x_il_n (q := 52) dX7_border_51 rfl rfl ?_
              refine x_il (q := 54) dX7_border_52 rfl rfl ?_
              refine x_ic (q := 55) dX7_border_54 rfl rfl ?_
              refine x_sub (q := 56) dX7_border_55 rfl ⟨by omega, by omega⟩ ?_
              refine x_sub (q := 57) dX7_border_56 rfl ⟨by omega, by omega⟩ ?_
              refine x_il (q := 59) dX7_border_57 rfl rfl ?_
              refine x_add (q := 60) dX7_border_59 rfl ⟨by omega, by omega⟩ ?_
              rw [show (i : Int) - (((n + 1 : Nat) : Int) - 1) + (j : Int) = ((i + j - n : Nat) : Int) by omega]
              refine x_VI (q := 63) (ci := 7) dX7_border_60 rfl kX7_border_66 (m_banned hs hr hm hv h2 (by omega)) rfl rfl (hs _ _ rfl) (by decide) rfl (Nat.le_of_ble_eq_true rfl) ⟨rfl, rfl⟩ ⟨Nat.zero_le _, Nat.zero_le _⟩ ?_
              refine x_ic_ne (t := 70) (q := 66) dX7_border_63 rfl rfl (fun c_63 => ?_) (fun c_63 => ?_)
              · skip
                have hM2 : mtc c.2.1 c.2.2.1 i b (n + 1) (j + 1) = false := by show (_ && (_ && decide (bnd c.2.1 c.2.2.1 j = bnd c.2.1 c.2.2.1 (i + j - (n + 1 - 1))))) = false; rw [decide_eq_false (p := bnd c.2.1 c.2.2.1 j = _) (by rw [show i + j - (n + 1 - 1) = i + j - n by omega]; exact c_63)]; simp
                refine x_ic (q := 71) dX7_border_70 rfl rfl ?_
                refine x_is5 (q := 73) dX7_border_71 rfl rfl ?_
                refine x_ii6 (q := 76) dX7_border_73 rfl rfl ⟨by omega, by omega⟩ ?_
                refine x_goto (t := 30) dX7_border_76 rfl ?_
                rw [hM2] at ihj
                exact ihj
              · skip
                have hM2 : mtc c.2.1 c.2.2.1 i b (n + 1) (j + 1) = true := by unfold mtc at hM0 ⊢; show (_ && (_ && decide (_ = _))) = true; rw [Bool.and_eq_true] at hM0; rw [hM0.1, hM0.2, decide_eq_true (by rw [show i + j - (n + 1 - 1) = i + j - n by omega]; exact c_63)]; rfl
                refine x_ic (q := 67) dX7_border_66 rfl rfl ?_
                refine x_goto (t := 71) dX7_border_67 rfl ?_
                refine x_is5 (q := 73) dX7_border_71 rfl rfl ?_
                refine x_ii6 (q := 76) dX7_border_73 rfl rfl ⟨by omega, by omega⟩ ?_
                refine x_goto (t := 30) dX7_border_76 rfl ?_
                rw [hM2] at ihj
                exact ihj
      refine x_il (q := 5) dX7_border_3 rfl rfl ?_
      refine x_if_le (t := 93) (q := 8) dX7_border_5 rfl rfl (fun c_5 => ?_) (fun c_5 => ?_)
      · skip
        exact absurd c_5 (by omega)
      · skip
        refine x_al_n (q := 9) dX7_border_8 rfl rfl ?_
        refine x_il (q := 11) dX7_border_9 rfl rfl ?_
        refine x_ic (q := 12) dX7_border_11 rfl rfl ?_
        refine x_sub (q := 13) dX7_border_12 rfl ⟨by omega, by omega⟩ ?_
        rw [show ((n + 1 : Nat) : Int) - 1 = (n : Int) by omega]
        refine x_VI (q := 16) (ci := 7) dX7_border_13 rfl kX7_border_66 (m_banned hs hr hm hv h2 (by omega)) rfl rfl (hs _ _ rfl) (by decide) rfl (Nat.le_of_ble_eq_true rfl) ⟨rfl, rfl⟩ ⟨Nat.zero_le _, Nat.zero_le _⟩ ?_
        refine x_il_n (q := 17) dX7_border_16 rfl rfl ?_
        refine x_ic_ne (t := 24) (q := 20) dX7_border_17 rfl rfl (fun c_17 => ?_) (fun c_17 => ?_)
        · skip
          have hb1 : false = mtc c.2.1 c.2.2.1 i b (n + 1) 0 := by unfold mtc; rw [decide_eq_false (by rw [show n + 1 - 1 = n by omega]; exact c_17)]; rfl
          refine x_ic (q := 25) dX7_border_24 rfl rfl ?_
          refine x_is5 (q := 27) dX7_border_25 rfl rfl ?_
          exact hin _ hb1 _
        · skip
          have hb1 : true = mtc c.2.1 c.2.2.1 i b (n + 1) 0 := by unfold mtc; rw [decide_eq_true (by rw [show n + 1 - 1 = n by omega]; exact c_17)]; rfl
          refine x_ic (q := 21) dX7_border_20 rfl rfl ?_
          refine x_goto (t := 25) dX7_border_21 rfl ?_
          refine x_is5 (q := 27) dX7_border_25 rfl rfl ?_
          exact hin _ hb1 _
  refine x_entry (ls := [some (aR 70), some (aI (i : Int)), some (aI b), some (aI ((i : Int) + 1)), none, none, none]) rfl rfl (Nat.le_of_ble_eq_true rfl) ?_
  refine x_il_n (q := 1) dX7_border_0 rfl rfl ?_
  refine x_is4 (q := 3) dX7_border_1 rfl rfl ?_
  exact key (i + 1) (Nat.le_refl _) none none
set_option maxHeartbeats 4000000 in
set_option maxRecDepth 100000 in
theorem m_stepOf (hs : ExtM sh) (hr : RokM rf) (hm : CM v c) (hv : Vld c) {s b : Int} (h0 : 0 ≤ s) (h1 : s < (nS c : Int)) (hb : b = 0 ∨ b = 1) : Cv g mX7_stepOf [aR 70, aI s, aI b] (sh, rf, v) (retI (stp c.1 c.2.1 c.2.2.1 s b) (sh, rf, v)) := by
  have hS := nS_rng hv
  have hd := nd_rng hv
  have hq := pw16 hv.2.2.2.1 hv.2.2.2.2
  obtain ⟨hvB, hp1, hp2, hq1, hq2⟩ := id hv
  refine x_entry (ls := [some (aR 70), some (aI s), some (aI b), none]) rfl rfl (Nat.le_of_ble_eq_true rfl) ?_
  refine x_al_n (q := 1) dX7_stepOf_0 rfl rfl ?_
  refine x_getR (q := 4) (o := some (71)) dX7_stepOf_1 rfl fX7_7 (hs _ _ rfl) rfl (hr _ _ rfl) ?_
  refine x_ic (q := 5) dX7_stepOf_4 rfl rfl ?_
  refine x_ialde (q := 6) (z := c.1) dX7_stepOf_5 rfl (hs _ _ rfl) (by omega) (by omega) (hm.1) ?_
  refine x_if_ne (t := 51) (q := 9) dX7_stepOf_6 rfl rfl (fun c_6 => ?_) (fun c_6 => ?_)
  · skip
    refine x_al_n (q := 52) dX7_stepOf_51 rfl rfl ?_
    refine x_getR (q := 55) (o := some (71)) dX7_stepOf_52 rfl fX7_7 (hs _ _ rfl) rfl (hr _ _ rfl) ?_
    refine x_ic (q := 56) dX7_stepOf_55 rfl rfl ?_
    refine x_ialde (q := 57) (z := c.1) dX7_stepOf_56 rfl (hs _ _ rfl) (by omega) (by omega) (hm.1) ?_
    refine x_ic (q := 58) dX7_stepOf_57 rfl rfl ?_
    refine x_ic_ne (t := 101) (q := 61) dX7_stepOf_58 rfl rfl (fun c_58 => ?_) (fun c_58 => ?_)
    · skip
      have h2 : c.1 = 2 := by unfold VBan at hvB; omega
      have hE := eAB2 h2
      have hW : 0 ≤ c.2.1 ∧ c.2.1 < 32 ∧ 2 ≤ c.2.2.1 ∧ c.2.2.1 ≤ 5 ∧ c.2.1 < 2 ^ c.2.2.1.toNat := by unfold VBan at hvB; omega
      have hN : (nS c : Int) = c.2.2.1 := by rw [hS.2.2]; unfold nst; rw [if_neg (by omega), if_neg (by omega)]
      obtain ⟨i, rfl⟩ := Int.eq_ofNat_of_zero_le h0
      have hT : stp c.1 c.2.1 c.2.2.1 (i : Int) b = if bdr c.2.1 c.2.2.1 i b (i + 1) = c.2.2.1 then -9 else bdr c.2.1 c.2.2.1 i b (i + 1) := by
        unfold stp
        rw [if_neg (by omega), if_neg (by omega), show ((i : Int) + 1).toNat = i + 1 by omega]
        exact bdr_stW hW.1 hW.2.2.1 hW.2.2.2.1 hW.2.2.2.2 (by omega) hb
      refine x_al_n (q := 102) dX7_stepOf_101 rfl rfl ?_
      refine x_il_n (q := 103) dX7_stepOf_102 rfl rfl ?_
      refine x_il_n (q := 104) dX7_stepOf_103 rfl rfl ?_
      refine x_il_n (q := 105) dX7_stepOf_104 rfl rfl ?_
      refine x_ic (q := 106) dX7_stepOf_105 rfl rfl ?_
      refine x_add (q := 107) dX7_stepOf_106 rfl ⟨by omega, by omega⟩ ?_
      refine x_VI (q := 110) (ci := 7) dX7_stepOf_107 rfl kX7_stepOf_74 (m_border hs hr hm hv h2 (by omega)) rfl rfl (hs _ _ rfl) (by decide) rfl (Nat.le_of_ble_eq_true rfl) ⟨rfl, rfl⟩ ⟨Nat.zero_le _, Nat.zero_le _⟩ ?_
      refine x_is3 (q := 111) dX7_stepOf_110 rfl rfl ?_
      refine x_il_n (q := 112) dX7_stepOf_111 rfl rfl ?_
      refine x_al_n (q := 113) dX7_stepOf_112 rfl rfl ?_
      refine x_getR (q := 116) (o := some (71)) dX7_stepOf_113 rfl fX7_7 (hs _ _ rfl) rfl (hr _ _ rfl) ?_
      refine x_ic (q := 117) dX7_stepOf_116 rfl rfl ?_
      refine x_ialde (q := 118) (z := eA c) dX7_stepOf_117 rfl (hs _ _ rfl) (by omega) (by omega) (hm.2.1) ?_
      refine x_ic_ne (t := 126) (q := 121) dX7_stepOf_118 rfl rfl (fun c_118 => ?_) (fun c_118 => ?_)
      · skip
        refine x_il_n (q := 127) dX7_stepOf_126 rfl rfl ?_
        exact x_iret dX7_stepOf_127 rfl rfl (Nat.zero_le _) (retI_mk (by rw [hT]; split <;> omega))
      · skip
        refine x_bi (q := 123) dX7_stepOf_121 rfl rfl ?_
        refine x_goto (t := 127) dX7_stepOf_123 rfl ?_
        exact x_iret dX7_stepOf_127 rfl rfl (Nat.zero_le _) (retI_mk (by rw [hT]; split <;> omega))
    · skip
      have hE := eAB1 (c := c) (by omega)
      have hT : stp c.1 c.2.1 c.2.2.1 s b = stC c.2.1 s b := by unfold stp; rw [if_neg (by omega), if_pos (by omega)]
      have hC : 1 ≤ c.2.1 ∧ c.2.1 ≤ 3 := by unfold VBan at hvB; omega
      refine x_il_n (q := 62) dX7_stepOf_61 rfl rfl ?_
      refine x_ic (q := 63) dX7_stepOf_62 rfl rfl ?_
      refine x_ic_ne (t := 72) (q := 66) dX7_stepOf_63 rfl rfl (fun c_63 => ?_) (fun c_63 => ?_)
      · skip
        refine x_il_n (q := 73) dX7_stepOf_72 rfl rfl ?_
        refine x_ic (q := 74) dX7_stepOf_73 rfl rfl ?_
        refine x_sub (q := 75) dX7_stepOf_74 rfl ⟨by omega, by omega⟩ ?_
        refine x_is3 (q := 76) dX7_stepOf_75 rfl rfl ?_
        refine x_il_n (q := 77) dX7_stepOf_76 rfl rfl ?_
        refine x_i2l (q := 78) dX7_stepOf_77 rfl ?_
        refine x_lc (q := 79) (z := 0) dX7_stepOf_78 rfl rfl ?_
        refine x_ic (q := 80) dX7_stepOf_79 rfl rfl ?_
        refine x_al_n (q := 81) dX7_stepOf_80 rfl rfl ?_
        refine x_getR (q := 84) (o := some (71)) dX7_stepOf_81 rfl fX7_7 (hs _ _ rfl) rfl (hr _ _ rfl) ?_
        refine x_ic (q := 85) dX7_stepOf_84 rfl rfl ?_
        refine x_ialde (q := 86) (z := eA c) dX7_stepOf_85 rfl (hs _ _ rfl) (by omega) (by omega) (hm.2.1) ?_
        refine x_mul (q := 87) dX7_stepOf_86 rfl ⟨by omega, by omega⟩ ?_
        refine x_i2l (q := 88) dX7_stepOf_87 rfl ?_
        refine x_SI (q := 91) dX7_stepOf_88 rfl kX7_stepOf_70 (m_in) rfl rfl (Nat.le_of_ble_eq_true rfl) ⟨rfl, rfl⟩ ⟨Nat.zero_le _, Nat.zero_le _⟩ ?_
        refine x_if_eq (t := 98) (q := 94) dX7_stepOf_91 rfl rfl (fun c_91 => ?_) (fun c_91 => ?_)
        · skip
          have hd1 := of_decide_eq_false (b2i_0.mp c_91)
          refine x_bi (q := 100) dX7_stepOf_98 rfl rfl ?_
          exact x_iret dX7_stepOf_100 rfl rfl (Nat.zero_le _) (retI_mk (by rw [hT]; unfold stC; (repeat' split) <;> omega))
        · skip
          have hd1 := of_decide_eq_true (b2i_n0.mp c_91)
          refine x_il_n (q := 95) dX7_stepOf_94 rfl rfl ?_
          refine x_goto (t := 100) dX7_stepOf_95 rfl ?_
          exact x_iret dX7_stepOf_100 rfl rfl (Nat.zero_le _) (retI_mk (by rw [hT]; unfold stC; (repeat' split) <;> omega))
      · skip
        refine x_il_n (q := 67) dX7_stepOf_66 rfl rfl ?_
        refine x_ic (q := 68) dX7_stepOf_67 rfl rfl ?_
        refine x_add (q := 69) dX7_stepOf_68 rfl ⟨by omega, by omega⟩ ?_
        refine x_goto (t := 75) dX7_stepOf_69 rfl ?_
        refine x_is3 (q := 76) dX7_stepOf_75 rfl rfl ?_
        refine x_il_n (q := 77) dX7_stepOf_76 rfl rfl ?_
        refine x_i2l (q := 78) dX7_stepOf_77 rfl ?_
        refine x_lc (q := 79) (z := 0) dX7_stepOf_78 rfl rfl ?_
        refine x_ic (q := 80) dX7_stepOf_79 rfl rfl ?_
        refine x_al_n (q := 81) dX7_stepOf_80 rfl rfl ?_
        refine x_getR (q := 84) (o := some (71)) dX7_stepOf_81 rfl fX7_7 (hs _ _ rfl) rfl (hr _ _ rfl) ?_
        refine x_ic (q := 85) dX7_stepOf_84 rfl rfl ?_
        refine x_ialde (q := 86) (z := eA c) dX7_stepOf_85 rfl (hs _ _ rfl) (by omega) (by omega) (hm.2.1) ?_
        refine x_mul (q := 87) dX7_stepOf_86 rfl ⟨by omega, by omega⟩ ?_
        refine x_i2l (q := 88) dX7_stepOf_87 rfl ?_
        refine x_SI (q := 91) dX7_stepOf_88 rfl kX7_stepOf_70 (m_in) rfl rfl (Nat.le_of_ble_eq_true rfl) ⟨rfl, rfl⟩ ⟨Nat.zero_le _, Nat.zero_le _⟩ ?_
        refine x_if_eq (t := 98) (q := 94) dX7_stepOf_91 rfl rfl (fun c_91 => ?_) (fun c_91 => ?_)
        · skip
          have hd1 := of_decide_eq_false (b2i_0.mp c_91)
          refine x_bi (q := 100) dX7_stepOf_98 rfl rfl ?_
          exact x_iret dX7_stepOf_100 rfl rfl (Nat.zero_le _) (retI_mk (by rw [hT]; unfold stC; (repeat' split) <;> omega))
        · skip
          have hd1 := of_decide_eq_true (b2i_n0.mp c_91)
          refine x_il_n (q := 95) dX7_stepOf_94 rfl rfl ?_
          refine x_goto (t := 100) dX7_stepOf_95 rfl ?_
          exact x_iret dX7_stepOf_100 rfl rfl (Nat.zero_le _) (retI_mk (by rw [hT]; unfold stC; (repeat' split) <;> omega))
  · skip
    have hE := eAB0 (c := c) (by omega)
    have hT : stp c.1 c.2.1 c.2.2.1 s b = stR c.2.1 c.2.2.1 s b := by unfold stp; rw [if_pos (by omega)]
    refine x_il_n (q := 10) dX7_stepOf_9 rfl rfl ?_
    refine x_if_ne (t := 34) (q := 13) dX7_stepOf_10 rfl rfl (fun c_10 => ?_) (fun c_10 => ?_)
    · skip
      refine x_il_n (q := 35) dX7_stepOf_34 rfl rfl ?_
      refine x_al_n (q := 36) dX7_stepOf_35 rfl rfl ?_
      refine x_getR (q := 39) (o := some (71)) dX7_stepOf_36 rfl fX7_7 (hs _ _ rfl) rfl (hr _ _ rfl) ?_
      refine x_ic (q := 40) dX7_stepOf_39 rfl rfl ?_
      refine x_ialde (q := 41) (z := eA c) dX7_stepOf_40 rfl (hs _ _ rfl) (by omega) (by omega) (hm.2.1) ?_
      refine x_ic_lt (t := 48) (q := 44) dX7_stepOf_41 rfl rfl (fun c_41 => ?_) (fun c_41 => ?_)
      · skip
        refine x_bi (q := 50) dX7_stepOf_48 rfl rfl ?_
        exact x_iret dX7_stepOf_50 rfl rfl (Nat.zero_le _) (retI_mk (by rw [hT]; unfold stR; (repeat' split) <;> omega))
      · skip
        refine x_ic (q := 45) dX7_stepOf_44 rfl rfl ?_
        refine x_goto (t := 50) dX7_stepOf_45 rfl ?_
        exact x_iret dX7_stepOf_50 rfl rfl (Nat.zero_le _) (retI_mk (by rw [hT]; unfold stR; (repeat' split) <;> omega))
    · skip
      refine x_il_n (q := 14) dX7_stepOf_13 rfl rfl ?_
      refine x_al_n (q := 15) dX7_stepOf_14 rfl rfl ?_
      refine x_getR (q := 18) (o := some (71)) dX7_stepOf_15 rfl fX7_7 (hs _ _ rfl) rfl (hr _ _ rfl) ?_
      refine x_ic (q := 19) dX7_stepOf_18 rfl rfl ?_
      refine x_ialde (q := 20) (z := eB c) dX7_stepOf_19 rfl (hs _ _ rfl) (by omega) (by omega) (hm.2.2.1) ?_
      refine x_ic_ge (t := 29) (q := 23) dX7_stepOf_20 rfl rfl (fun c_20 => ?_) (fun c_20 => ?_)
      · skip
        refine x_bi (q := 31) dX7_stepOf_29 rfl rfl ?_
        refine x_goto (t := 50) dX7_stepOf_31 rfl ?_
        exact x_iret dX7_stepOf_50 rfl rfl (Nat.zero_le _) (retI_mk (by rw [hT]; unfold stR; (repeat' split) <;> omega))
      · skip
        refine x_il_n (q := 24) dX7_stepOf_23 rfl rfl ?_
        refine x_ic (q := 25) dX7_stepOf_24 rfl rfl ?_
        refine x_add (q := 26) dX7_stepOf_25 rfl ⟨by omega, by omega⟩ ?_
        refine x_goto (t := 50) dX7_stepOf_26 rfl ?_
        exact x_iret dX7_stepOf_50 rfl rfl (Nat.zero_le _) (retI_mk (by rw [hT]; unfold stR; (repeat' split) <;> omega))
set_option maxHeartbeats 4000000 in
set_option maxRecDepth 100000 in
theorem m_words (hs : ExtM sh) (hr : RokM rf) (hm : CM v c) (hv : Vld c)  : Cv g mX7_words [aR 70] (sh, rf, v) (retI (2 ^ c.2.2.2.2.toNat) (sh, rf, v)) := by
  have hS := nS_rng hv
  have hd := nd_rng hv
  have hq := pw16 hv.2.2.2.1 hv.2.2.2.2
  obtain ⟨hvB, hp1, hp2, hq1, hq2⟩ := id hv
  refine x_entry (ls := [some (aR 70)]) rfl rfl (Nat.le_of_ble_eq_true rfl) ?_
  refine x_ic (q := 1) dX7_words_0 rfl rfl ?_
  refine x_al_n (q := 2) dX7_words_1 rfl rfl ?_
  refine x_getR (q := 5) (o := some (71)) dX7_words_2 rfl fX7_7 (hs _ _ rfl) rfl (hr _ _ rfl) ?_
  refine x_ic (q := 6) dX7_words_5 rfl rfl ?_
  refine x_ialde (q := 7) (z := c.2.2.2.2) dX7_words_6 rfl (hs _ _ rfl) (by omega) (by omega) (hm.2.2.2.2) ?_
  refine x_pow (q := 8) dX7_words_7 rfl (by omega) (by omega) ?_
  exact x_iret dX7_words_8 rfl rfl (Nat.zero_le _) (retI_mk (by rfl))
/-- what finds lays: arcs, tags -/
def RowL (v : Nat → Nat → Int) (c : Cfg) : Prop := ∀ s w : Nat, s < nS c → (w : Int) < 2 ^ c.2.2.2.2.toNat → v 77 (16 * s + w) = eT c s w
def RowG (v : Nat → Nat → Int) (c : Cfg) : Prop := ∀ s w : Nat, s < nS c → (w : Int) < 2 ^ c.2.2.2.2.toNat → v 78 (16 * s + w) = tT c s w
theorem Ex_o {E : Nat → Nat → Int} {s : Nat} {w : Int} (h0 : 0 ≤ w) (h : w < 16 → E s w.toNat = -9) : Ex E s w = -9 := by
  unfold Ex
  split
  · exact h (by omega)
  · rfl
theorem tT_o2 {c : Cfg} (hv : Vld c) {s w : Nat} (h : ¬ (w : Int) < 2 ^ c.2.2.2.2.toNat) : tT c s w = -9 := by
  by_cases h1 : tT c s w = -9
  · exact h1
  · exact absurd (tT_good hv h1).2.2.1 h
theorem tT_o1 {c : Cfg} (hv : Vld c) {s w : Nat} (h : ¬ s < nS c) : tT c s w = -9 := by
  by_cases h1 : tT c s w = -9
  · exact h1
  · exact absurd (tT_good hv h1).1 h
set_option maxHeartbeats 4000000 in
set_option maxRecDepth 100000 in
theorem m_lead (hs : ExtM sh) (hr : RokM rf) (hm : CM v c) (hv : Vld c) {s : Nat} {w : Int} (hR : RowL v c) (h0 : 0 ≤ w) (hsn : s < nS c) : Cv g mX7_lead [aR 70, aI (s : Int), aI w] (sh, rf, v) (retI (Ex (eT c) s w) (sh, rf, v)) := by
  have hS := nS_rng hv
  have hd := nd_rng hv
  have hq := pw16 hv.2.2.2.1 hv.2.2.2.2
  obtain ⟨hvB, hp1, hp2, hq1, hq2⟩ := id hv
  refine x_entry (ls := [some (aR 70), some (aI (s : Int)), some (aI w)]) rfl rfl (Nat.le_of_ble_eq_true rfl) ?_
  refine x_il_n (q := 1) dX7_lead_0 rfl rfl ?_
  refine x_al_n (q := 2) dX7_lead_1 rfl rfl ?_
  refine x_VI (q := 5) (ci := 7) dX7_lead_2 rfl kX7_lead_78 (m_words hs hr hm hv) rfl rfl (hs _ _ rfl) (by decide) rfl (Nat.le_of_ble_eq_true rfl) ⟨rfl, rfl⟩ ⟨Nat.zero_le _, Nat.zero_le _⟩ ?_
  refine x_ic_ge (t := 22) (q := 8) dX7_lead_5 rfl rfl (fun c_5 => ?_) (fun c_5 => ?_)
  · skip
    refine x_bi (q := 24) dX7_lead_22 rfl rfl ?_
    first
    | exact x_iret dX7_lead_24 rfl rfl (Nat.zero_le _) (retI_mk (by rw [Ex, if_pos (by omega)]; rfl))
    | exact x_iret dX7_lead_24 rfl rfl (Nat.zero_le _) (retI_mk (by rw [Ex_o h0 (fun _ => eT_o2 (by omega))]))
  · skip
    refine x_al_n (q := 9) dX7_lead_8 rfl rfl ?_
    refine x_getR (q := 12) (o := some (77)) dX7_lead_9 rfl fX7_29 (hs _ _ rfl) rfl (hr _ _ rfl) ?_
    refine x_bi (q := 14) dX7_lead_12 rfl rfl ?_
    refine x_il_n (q := 15) dX7_lead_14 rfl rfl ?_
    refine x_mul (q := 16) dX7_lead_15 rfl ⟨by omega, by omega⟩ ?_
    refine x_il_n (q := 17) dX7_lead_16 rfl rfl ?_
    refine x_add (q := 18) dX7_lead_17 rfl ⟨by omega, by omega⟩ ?_
    refine x_ialde (q := 19) (z := eT c s w.toNat) dX7_lead_18 rfl (hs _ _ rfl) (by omega) (by omega) (by rw [show (16 * (s : Int) + w).toNat = 16 * s + w.toNat by omega]; exact hR s w.toNat hsn (by omega)) ?_
    refine x_goto (t := 24) dX7_lead_19 rfl ?_
    first
    | exact x_iret dX7_lead_24 rfl rfl (Nat.zero_le _) (retI_mk (by rw [Ex, if_pos (by omega)]; rfl))
    | exact x_iret dX7_lead_24 rfl rfl (Nat.zero_le _) (retI_mk (by rw [Ex_o h0 (fun _ => eT_o2 (by omega))]))
set_option maxHeartbeats 4000000 in
set_option maxRecDepth 100000 in
theorem m_tag (hs : ExtM sh) (hr : RokM rf) (hm : CM v c) (hv : Vld c) {s : Nat} {w : Int} (hR : RowG v c) (h0 : 0 ≤ w) (hsn : s < nS c) : Cv g mX7_tag [aR 70, aI (s : Int), aI w] (sh, rf, v) (retI (Ex (tT c) s w) (sh, rf, v)) := by
  have hS := nS_rng hv
  have hd := nd_rng hv
  have hq := pw16 hv.2.2.2.1 hv.2.2.2.2
  obtain ⟨hvB, hp1, hp2, hq1, hq2⟩ := id hv
  refine x_entry (ls := [some (aR 70), some (aI (s : Int)), some (aI w)]) rfl rfl (Nat.le_of_ble_eq_true rfl) ?_
  refine x_il_n (q := 1) dX7_tag_0 rfl rfl ?_
  refine x_al_n (q := 2) dX7_tag_1 rfl rfl ?_
  refine x_VI (q := 5) (ci := 7) dX7_tag_2 rfl kX7_tag_78 (m_words hs hr hm hv) rfl rfl (hs _ _ rfl) (by decide) rfl (Nat.le_of_ble_eq_true rfl) ⟨rfl, rfl⟩ ⟨Nat.zero_le _, Nat.zero_le _⟩ ?_
  refine x_ic_ge (t := 22) (q := 8) dX7_tag_5 rfl rfl (fun c_5 => ?_) (fun c_5 => ?_)
  · skip
    refine x_bi (q := 24) dX7_tag_22 rfl rfl ?_
    first
    | exact x_iret dX7_tag_24 rfl rfl (Nat.zero_le _) (retI_mk (by rw [Ex, if_pos (by omega)]; rfl))
    | exact x_iret dX7_tag_24 rfl rfl (Nat.zero_le _) (retI_mk (by rw [Ex_o h0 (fun _ => tT_o2 hv (by omega))]))
  · skip
    refine x_al_n (q := 9) dX7_tag_8 rfl rfl ?_
    refine x_getR (q := 12) (o := some (78)) dX7_tag_9 rfl fX7_32 (hs _ _ rfl) rfl (hr _ _ rfl) ?_
    refine x_bi (q := 14) dX7_tag_12 rfl rfl ?_
    refine x_il_n (q := 15) dX7_tag_14 rfl rfl ?_
    refine x_mul (q := 16) dX7_tag_15 rfl ⟨by omega, by omega⟩ ?_
    refine x_il_n (q := 17) dX7_tag_16 rfl rfl ?_
    refine x_add (q := 18) dX7_tag_17 rfl ⟨by omega, by omega⟩ ?_
    refine x_ialde (q := 19) (z := tT c s w.toNat) dX7_tag_18 rfl (hs _ _ rfl) (by omega) (by omega) (by rw [show (16 * (s : Int) + w).toNat = 16 * s + w.toNat by omega]; exact hR s w.toNat hsn (by omega)) ?_
    refine x_goto (t := 24) dX7_tag_19 rfl ?_
    first
    | exact x_iret dX7_tag_24 rfl rfl (Nat.zero_le _) (retI_mk (by rw [Ex, if_pos (by omega)]; rfl))
    | exact x_iret dX7_tag_24 rfl rfl (Nat.zero_le _) (retI_mk (by rw [Ex_o h0 (fun _ => tT_o2 hv (by omega))]))
end MOD

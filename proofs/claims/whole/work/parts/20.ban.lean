/-! ===== the class's cells ===== -/
def SHc : List (Nat × Nat) := [(9, 11), (8, 5), (0, 60), (4, 5), (5, 2), (4, 5), (6, 5), (0, 24), (0, 24), (0, 24), (3, 8), (0, 112), (0, 112), (0, 7), (0, 7), (7, 2), (0, 7), (0, 7), (2, 6), (5, 2), (4, 5), (6, 5), (0, 24), (0, 24), (0, 24), (5, 2), (4, 5), (6, 5), (0, 24), (0, 24), (0, 24), (5, 2), (4, 5), (6, 5), (0, 24), (0, 24), (0, 24), (5, 2), (4, 5), (6, 5), (0, 24), (0, 24), (0, 24), (5, 2), (4, 5), (6, 5), (0, 24), (0, 24), (0, 24), (5, 2), (4, 5), (6, 5), (0, 24), (0, 24), (0, 24), (2, 2), (5, 2), (4, 5), (6, 5), (0, 24), (0, 24), (0, 24), (5, 2), (4, 5), (6, 5), (0, 24), (0, 24), (0, 24), (1, 2), (0, 6)]
/-- where references lead that never change: (cell, field) -/
def RFl : Nat → Nat → Option Nat := fun c k => match c, k with
  | 0, 0 => some 1
  | 0, 1 => some 3
  | 0, 2 => some 4
  | 0, 3 => some 10
  | 0, 4 => some 15
  | 0, 5 => some 18
  | 0, 7 => some 55
  | 0, 8 => some 68
  | 0, 9 => some 69
  | 1, 0 => some 2
  | 4, 0 => some 5
  | 4, 1 => some 6
  | 6, 0 => some 7
  | 6, 1 => some 8
  | 6, 2 => some 9
  | 10, 4 => some 11
  | 10, 5 => some 12
  | 10, 6 => some 13
  | 10, 7 => some 14
  | 15, 0 => some 16
  | 15, 1 => some 17
  | 19, 0 => some 20
  | 19, 1 => some 21
  | 21, 0 => some 22
  | 21, 1 => some 23
  | 21, 2 => some 24
  | 25, 0 => some 26
  | 25, 1 => some 27
  | 27, 0 => some 28
  | 27, 1 => some 29
  | 27, 2 => some 30
  | 31, 0 => some 32
  | 31, 1 => some 33
  | 33, 0 => some 34
  | 33, 1 => some 35
  | 33, 2 => some 36
  | 37, 0 => some 38
  | 37, 1 => some 39
  | 39, 0 => some 40
  | 39, 1 => some 41
  | 39, 2 => some 42
  | 43, 0 => some 44
  | 43, 1 => some 45
  | 45, 0 => some 46
  | 45, 1 => some 47
  | 45, 2 => some 48
  | 49, 0 => some 50
  | 49, 1 => some 51
  | 51, 0 => some 52
  | 51, 1 => some 53
  | 51, 2 => some 54
  | 55, 0 => some 56
  | 55, 1 => some 62
  | 56, 0 => some 57
  | 56, 1 => some 58
  | 58, 0 => some 59
  | 58, 1 => some 60
  | 58, 2 => some 61
  | 62, 0 => some 63
  | 62, 1 => some 64
  | 64, 0 => some 65
  | 64, 1 => some 66
  | 64, 2 => some 67
  | _, _ => none
def Ext (sh : List (Nat × Nat)) : Prop := ∀ (c : Nat) (kl : Nat × Nat), SHc[c]? = some kl → sh[c]? = some kl
def Rok (rf : Nat → Nat → Option Nat) : Prop := ∀ (c k d : Nat), RFl c k = some d → rf c k = some d
abbrev Cfg : Type := Int × Int × Int × Int × Int
def banOf (v : Nat → Nat → Int) (c : Nat) : Cfg := (v c 0, v c 1, v c 2, v c 3, v c 4)
def VBan (so lo hi : Int) : Prop := (so = 0 ∧ 0 ≤ lo ∧ lo ≤ 3 ∧ lo ≤ hi ∧ 1 ≤ hi ∧ hi ≤ 5) ∨ (so = 1 ∧ 1 ≤ lo ∧ lo ≤ 3 ∧ hi = 3) ∨ (so = 2 ∧ 0 ≤ lo ∧ lo < 32 ∧ 2 ≤ hi ∧ hi ≤ 5 ∧ lo < 2 ^ hi.toNat)
def Vld (c : Cfg) : Prop := VBan c.1 c.2.1 c.2.2.1 ∧ 1 ≤ c.2.2.2.1 ∧ c.2.2.2.1 ≤ 3 ∧ 1 ≤ c.2.2.2.2 ∧ c.2.2.2.2 ≤ 4
def nst (so lo hi : Int) : Int := if so = 0 then hi + 1 else if so = 1 then 2 * lo + 1 else hi
theorem nst_rng {so lo hi : Int} (h : VBan so lo hi) : 2 ≤ nst so lo hi ∧ nst so lo hi ≤ 7 := by
  unfold nst
  rcases h with ⟨h1, h2⟩ | ⟨h1, h2⟩ | ⟨h1, h2⟩
  · rw [if_pos h1]; omega
  · rw [if_neg (by omega), if_pos h1]; omega
  · rw [if_neg (by omega), if_neg (by omega)]; omega
def fbits (lo hi n : Int) : Int := lo / 2 ^ (hi - n).toNat
def stW (lo hi latest : Int) : Nat → Int
  | 0 => 0
  | n + 1 => if latest % 2 ^ (n + 1) = fbits lo hi ((n + 1 : Nat) : Int) then (if ((n + 1 : Nat) : Int) = hi then -9 else ((n + 1 : Nat) : Int)) else stW lo hi latest n
def stR (lo hi s b : Int) : Int := if b = 0 then (if s < hi then s + 1 else -9) else (if lo ≤ s then 0 else -9)
def stC (lo s b : Int) : Int := if (if b = 1 then s + 1 else s - 1) < 0 ∨ 2 * lo < (if b = 1 then s + 1 else s - 1) then -9 else (if b = 1 then s + 1 else s - 1)
/-- where a bit leads -/
def stp (so lo hi s b : Int) : Int := if so = 0 then stR lo hi s b else if so = 1 then stC lo s b else stW lo hi (fbits lo hi s * 2 + b) (s + 1).toNat
section BAN
variable {g : GL} {sh : List (Nat × Nat)} {rf : Nat → Nat → Option Nat} {v : Nat → Nat → Int}

set_option maxHeartbeats 4000000 in
set_option maxRecDepth 100000 in
theorem c_tagCount {c : Nat} (hb : sh[c]? = some (4, 5)) (h0 : 0 ≤ v c 3) (h1 : v c 3 ≤ 20) : Cv g mX1_tagCount [aR c] (sh, rf, v) (retI (2 ^ (v c 3).toNat) (sh, rf, v)) := by
  refine x_entry (ls := [some (aR c)]) rfl rfl (Nat.le_of_ble_eq_true rfl) ?_
  refine x_ic (q := 1) dX1_tagCount_0 rfl rfl ?_
  refine x_al_n (q := 2) dX1_tagCount_1 rfl rfl ?_
  refine x_getI (q := 5) dX1_tagCount_2 rfl fX1_24 (by assumption) rfl ?_
  refine x_pow (q := 6) dX1_tagCount_5 rfl h0 h1 ?_
  exact x_iret dX1_tagCount_6 rfl rfl (Nat.zero_le _) (retI_mk (by rfl))
set_option maxHeartbeats 4000000 in
set_option maxRecDepth 100000 in
theorem c_wordCount {c : Nat} (hb : sh[c]? = some (4, 5)) (h0 : 0 ≤ v c 4) (h1 : v c 4 ≤ 20) : Cv g mX1_wordCount [aR c] (sh, rf, v) (retI (2 ^ (v c 4).toNat) (sh, rf, v)) := by
  refine x_entry (ls := [some (aR c)]) rfl rfl (Nat.le_of_ble_eq_true rfl) ?_
  refine x_ic (q := 1) dX1_wordCount_0 rfl rfl ?_
  refine x_al_n (q := 2) dX1_wordCount_1 rfl rfl ?_
  refine x_getI (q := 5) dX1_wordCount_2 rfl fX1_27 (by assumption) rfl ?_
  refine x_pow (q := 6) dX1_wordCount_5 rfl h0 h1 ?_
  exact x_iret dX1_wordCount_6 rfl rfl (Nat.zero_le _) (retI_mk (by rfl))
set_option maxHeartbeats 4000000 in
set_option maxRecDepth 100000 in
theorem c_stateCount {c : Nat} (hb : sh[c]? = some (4, 5)) (hv : VBan (v c 0) (v c 1) (v c 2)) : Cv g mX1_stateCount [aR c] (sh, rf, v) (retI (nst (v c 0) (v c 1) (v c 2)) (sh, rf, v)) := by
  refine x_entry (ls := [some (aR c)]) rfl rfl (Nat.le_of_ble_eq_true rfl) ?_
  refine x_al_n (q := 1) dX1_stateCount_0 rfl rfl ?_
  refine x_getI (q := 4) dX1_stateCount_1 rfl fX1_14 (by assumption) rfl ?_
  rcases hv with hv | hv | hv
  · have hs := hv.1
    rw [hs]
    refine x_look (t := 32) dX1_stateCount_4 rfl rfl rfl ?_
    refine x_al_n (q := 33) dX1_stateCount_32 rfl rfl ?_
    refine x_getI (q := 36) dX1_stateCount_33 rfl fX1_21 (by assumption) rfl ?_
    refine x_ic (q := 37) dX1_stateCount_36 rfl rfl ?_
    refine x_add (q := 38) dX1_stateCount_37 rfl ⟨by omega, by omega⟩ ?_
    exact x_iret dX1_stateCount_38 rfl rfl (Nat.zero_le _) (retI_mk (by unfold nst; rfl))
  · have hs := hv.1
    rw [hs]
    refine x_look (t := 39) dX1_stateCount_4 rfl rfl rfl ?_
    refine x_ic (q := 40) dX1_stateCount_39 rfl rfl ?_
    refine x_al_n (q := 41) dX1_stateCount_40 rfl rfl ?_
    refine x_getI (q := 44) dX1_stateCount_41 rfl fX1_18 (by assumption) rfl ?_
    refine x_mul (q := 45) dX1_stateCount_44 rfl ⟨by omega, by omega⟩ ?_
    refine x_ic (q := 46) dX1_stateCount_45 rfl rfl ?_
    refine x_add (q := 47) dX1_stateCount_46 rfl ⟨by omega, by omega⟩ ?_
    exact x_iret dX1_stateCount_47 rfl rfl (Nat.zero_le _) (retI_mk (by unfold nst; rfl))
  · have hs := hv.1
    rw [hs]
    refine x_look (t := 48) dX1_stateCount_4 rfl rfl rfl ?_
    refine x_al_n (q := 49) dX1_stateCount_48 rfl rfl ?_
    refine x_getI (q := 52) dX1_stateCount_49 rfl fX1_21 (by assumption) rfl ?_
    exact x_iret dX1_stateCount_52 rfl rfl (Nat.zero_le _) (retI_mk (by unfold nst; rfl))
set_option maxHeartbeats 4000000 in
set_option maxRecDepth 100000 in
theorem c_start {c : Nat} (hb : sh[c]? = some (4, 5)) : Cv g mX1_start [aR c] (sh, rf, v) (retI (if v c 0 = 1 then v c 1 else 0) (sh, rf, v)) := by
  refine x_entry (ls := [some (aR c)]) rfl rfl (Nat.le_of_ble_eq_true rfl) ?_
  refine x_al_n (q := 1) dX1_start_0 rfl rfl ?_
  refine x_getI (q := 4) dX1_start_1 rfl fX1_14 (by assumption) rfl ?_
  refine x_ic (q := 5) dX1_start_4 rfl rfl ?_
  refine x_ic_ne (t := 15) (q := 8) dX1_start_5 rfl rfl (fun c_5 => ?_) (fun c_5 => ?_)
  · skip
    refine x_ic (q := 16) dX1_start_15 rfl rfl ?_
    exact x_iret dX1_start_16 rfl rfl (Nat.zero_le _) (retI_mk (by first | rw [if_pos c_5] | rw [if_neg c_5]))
  · skip
    refine x_al_n (q := 9) dX1_start_8 rfl rfl ?_
    refine x_getI (q := 12) dX1_start_9 rfl fX1_18 (by assumption) rfl ?_
    refine x_goto (t := 16) dX1_start_12 rfl ?_
    exact x_iret dX1_start_16 rfl rfl (Nat.zero_le _) (retI_mk (by first | rw [if_pos c_5] | rw [if_neg c_5]))
set_option maxHeartbeats 4000000 in
set_option maxRecDepth 100000 in
theorem c_leadOfRuns {c : Nat} {s b : Int} (hb : sh[c]? = some (4, 5)) (h0 : 0 ≤ s) (h1 : s ≤ 20) : Cv g mX1_leadOfRuns [aR c, aI s, aI b] (sh, rf, v) (retI (stR (v c 1) (v c 2) s b) (sh, rf, v)) := by
  refine x_entry (ls := [some (aR c), some (aI s), some (aI b)]) rfl rfl (Nat.le_of_ble_eq_true rfl) ?_
  refine x_il_n (q := 1) dX1_leadOfRuns_0 rfl rfl ?_
  refine x_if_ne (t := 21) (q := 4) dX1_leadOfRuns_1 rfl rfl (fun c_1 => ?_) (fun c_1 => ?_)
  · skip
    refine x_il_n (q := 22) dX1_leadOfRuns_21 rfl rfl ?_
    refine x_al_n (q := 23) dX1_leadOfRuns_22 rfl rfl ?_
    refine x_getI (q := 26) dX1_leadOfRuns_23 rfl fX1_18 (by assumption) rfl ?_
    refine x_ic_lt (t := 33) (q := 29) dX1_leadOfRuns_26 rfl rfl (fun c_26 => ?_) (fun c_26 => ?_)
    · skip
      refine x_bi (q := 35) dX1_leadOfRuns_33 rfl rfl ?_
      exact x_iret dX1_leadOfRuns_35 rfl rfl (Nat.zero_le _) (retI_mk (by unfold stR; (repeat' split) <;> omega))
    · skip
      refine x_ic (q := 30) dX1_leadOfRuns_29 rfl rfl ?_
      refine x_goto (t := 35) dX1_leadOfRuns_30 rfl ?_
      exact x_iret dX1_leadOfRuns_35 rfl rfl (Nat.zero_le _) (retI_mk (by unfold stR; (repeat' split) <;> omega))
  · skip
    refine x_il_n (q := 5) dX1_leadOfRuns_4 rfl rfl ?_
    refine x_al_n (q := 6) dX1_leadOfRuns_5 rfl rfl ?_
    refine x_getI (q := 9) dX1_leadOfRuns_6 rfl fX1_21 (by assumption) rfl ?_
    refine x_ic_ge (t := 18) (q := 12) dX1_leadOfRuns_9 rfl rfl (fun c_9 => ?_) (fun c_9 => ?_)
    · skip
      refine x_bi (q := 20) dX1_leadOfRuns_18 rfl rfl ?_
      exact x_iret dX1_leadOfRuns_20 rfl rfl (Nat.zero_le _) (retI_mk (by unfold stR; (repeat' split) <;> omega))
    · skip
      refine x_il_n (q := 13) dX1_leadOfRuns_12 rfl rfl ?_
      refine x_ic (q := 14) dX1_leadOfRuns_13 rfl rfl ?_
      refine x_add (q := 15) dX1_leadOfRuns_14 rfl ⟨by omega, by omega⟩ ?_
      refine x_goto (t := 20) dX1_leadOfRuns_15 rfl ?_
      exact x_iret dX1_leadOfRuns_20 rfl rfl (Nat.zero_le _) (retI_mk (by unfold stR; (repeat' split) <;> omega))
set_option maxHeartbeats 4000000 in
set_option maxRecDepth 100000 in
theorem c_leadOfCharge {c : Nat} {s b : Int} (hb : sh[c]? = some (4, 5)) (h0 : 0 ≤ s) (h1 : s ≤ 20) (h2 : 0 ≤ v c 1) (h3 : v c 1 ≤ 20) : Cv g mX1_leadOfCharge [aR c, aI s, aI b] (sh, rf, v) (retI (stC (v c 1) s b) (sh, rf, v)) := by
  refine x_entry (ls := [some (aR c), some (aI s), some (aI b), none]) rfl rfl (Nat.le_of_ble_eq_true rfl) ?_
  refine x_il_n (q := 1) dX1_leadOfCharge_0 rfl rfl ?_
  refine x_ic (q := 2) dX1_leadOfCharge_1 rfl rfl ?_
  refine x_ic_ne (t := 11) (q := 5) dX1_leadOfCharge_2 rfl rfl (fun c_2 => ?_) (fun c_2 => ?_)
  · skip
    refine x_il_n (q := 12) dX1_leadOfCharge_11 rfl rfl ?_
    refine x_ic (q := 13) dX1_leadOfCharge_12 rfl rfl ?_
    refine x_sub (q := 14) dX1_leadOfCharge_13 rfl ⟨by omega, by omega⟩ ?_
    refine x_is3 (q := 15) dX1_leadOfCharge_14 rfl rfl ?_
    refine x_il_n (q := 16) dX1_leadOfCharge_15 rfl rfl ?_
    refine x_if_lt (t := 29) (q := 19) dX1_leadOfCharge_16 rfl rfl (fun c_16 => ?_) (fun c_16 => ?_)
    · skip
      refine x_bi (q := 31) dX1_leadOfCharge_29 rfl rfl ?_
      refine x_goto (t := 35) dX1_leadOfCharge_31 rfl ?_
      exact x_iret dX1_leadOfCharge_35 rfl rfl (Nat.zero_le _) (retI_mk (by unfold stC; (repeat' split) <;> omega))
    · skip
      refine x_il_n (q := 20) dX1_leadOfCharge_19 rfl rfl ?_
      refine x_ic (q := 21) dX1_leadOfCharge_20 rfl rfl ?_
      refine x_al_n (q := 22) dX1_leadOfCharge_21 rfl rfl ?_
      refine x_getI (q := 25) dX1_leadOfCharge_22 rfl fX1_18 (by assumption) rfl ?_
      refine x_mul (q := 26) dX1_leadOfCharge_25 rfl ⟨by omega, by omega⟩ ?_
      refine x_ic_le (t := 34) (q := 29) dX1_leadOfCharge_26 rfl rfl (fun c_26 => ?_) (fun c_26 => ?_)
      · skip
        refine x_il_n (q := 35) dX1_leadOfCharge_34 rfl rfl ?_
        exact x_iret dX1_leadOfCharge_35 rfl rfl (Nat.zero_le _) (retI_mk (by unfold stC; (repeat' split) <;> omega))
      · skip
        refine x_bi (q := 31) dX1_leadOfCharge_29 rfl rfl ?_
        refine x_goto (t := 35) dX1_leadOfCharge_31 rfl ?_
        exact x_iret dX1_leadOfCharge_35 rfl rfl (Nat.zero_le _) (retI_mk (by unfold stC; (repeat' split) <;> omega))
  · skip
    refine x_il_n (q := 6) dX1_leadOfCharge_5 rfl rfl ?_
    refine x_ic (q := 7) dX1_leadOfCharge_6 rfl rfl ?_
    refine x_add (q := 8) dX1_leadOfCharge_7 rfl ⟨by omega, by omega⟩ ?_
    refine x_goto (t := 14) dX1_leadOfCharge_8 rfl ?_
    refine x_is3 (q := 15) dX1_leadOfCharge_14 rfl rfl ?_
    refine x_il_n (q := 16) dX1_leadOfCharge_15 rfl rfl ?_
    refine x_if_lt (t := 29) (q := 19) dX1_leadOfCharge_16 rfl rfl (fun c_16 => ?_) (fun c_16 => ?_)
    · skip
      refine x_bi (q := 31) dX1_leadOfCharge_29 rfl rfl ?_
      refine x_goto (t := 35) dX1_leadOfCharge_31 rfl ?_
      exact x_iret dX1_leadOfCharge_35 rfl rfl (Nat.zero_le _) (retI_mk (by unfold stC; (repeat' split) <;> omega))
    · skip
      refine x_il_n (q := 20) dX1_leadOfCharge_19 rfl rfl ?_
      refine x_ic (q := 21) dX1_leadOfCharge_20 rfl rfl ?_
      refine x_al_n (q := 22) dX1_leadOfCharge_21 rfl rfl ?_
      refine x_getI (q := 25) dX1_leadOfCharge_22 rfl fX1_18 (by assumption) rfl ?_
      refine x_mul (q := 26) dX1_leadOfCharge_25 rfl ⟨by omega, by omega⟩ ?_
      refine x_ic_le (t := 34) (q := 29) dX1_leadOfCharge_26 rfl rfl (fun c_26 => ?_) (fun c_26 => ?_)
      · skip
        refine x_il_n (q := 35) dX1_leadOfCharge_34 rfl rfl ?_
        exact x_iret dX1_leadOfCharge_35 rfl rfl (Nat.zero_le _) (retI_mk (by unfold stC; (repeat' split) <;> omega))
      · skip
        refine x_bi (q := 31) dX1_leadOfCharge_29 rfl rfl ?_
        refine x_goto (t := 35) dX1_leadOfCharge_31 rfl ?_
        exact x_iret dX1_leadOfCharge_35 rfl rfl (Nat.zero_le _) (retI_mk (by unfold stC; (repeat' split) <;> omega))
set_option maxHeartbeats 4000000 in
set_option maxRecDepth 100000 in
theorem c_firstBits {c : Nat} {n : Int} (hb : sh[c]? = some (4, 5)) (h0 : 0 ≤ v c 1) (h1 : 0 ≤ n) (h2 : n ≤ v c 2) (h3 : v c 2 ≤ 20) : Cv g mX1_firstBits [aR c, aI n] (sh, rf, v) (retI (fbits (v c 1) (v c 2) n) (sh, rf, v)) := by
  refine x_entry (ls := [some (aR c), some (aI n)]) rfl rfl (Nat.le_of_ble_eq_true rfl) ?_
  refine x_al_n (q := 1) dX1_firstBits_0 rfl rfl ?_
  refine x_getI (q := 4) dX1_firstBits_1 rfl fX1_18 (by assumption) rfl ?_
  refine x_al_n (q := 5) dX1_firstBits_4 rfl rfl ?_
  refine x_getI (q := 8) dX1_firstBits_5 rfl fX1_21 (by assumption) rfl ?_
  refine x_il_n (q := 9) dX1_firstBits_8 rfl rfl ?_
  refine x_sub (q := 10) dX1_firstBits_9 rfl ⟨by omega, by omega⟩ ?_
  refine x_shr (q := 11) dX1_firstBits_10 rfl (by omega) (by omega) (by omega) ?_
  exact x_iret dX1_firstBits_11 rfl rfl (Nat.zero_le _) (retI_mk (by rfl))
theorem fb_rng {lo hi n : Int} (h0 : 0 ≤ lo) (h1 : lo < 32) : 0 ≤ fbits lo hi n ∧ fbits lo hi n < 32 := by
  unfold fbits
  have hp := pw_pos (hi - n).toNat
  exact ⟨Int.ediv_nonneg h0 (Int.le_of_lt hp), Int.lt_of_le_of_lt (Int.ediv_le_self _ h0) h1⟩
theorem or_bit {a b : Int} (h0 : 0 ≤ a) (h1 : a < 32) (hb : b = 0 ∨ b = 1) : (((a * 2 ^ (1 : Int).toNat).toNat ||| b.toNat : Nat) : Int) = a * 2 + b := by
  have : ∀ n : Nat, n < 32 → ((((n : Int) * 2 ^ (1 : Int).toNat).toNat ||| (0 : Int).toNat : Nat) : Int) = (n : Int) * 2 + 0 ∧ ((((n : Int) * 2 ^ (1 : Int).toNat).toNat ||| (1 : Int).toNat : Nat) : Int) = (n : Int) * 2 + 1 := by decide +kernel
  obtain ⟨n, rfl⟩ := Int.eq_ofNat_of_zero_le h0
  have h2 := this n (by omega)
  rcases hb with rfl | rfl
  · exact h2.1
  · exact h2.2
set_option maxHeartbeats 4000000 in
set_option maxRecDepth 100000 in
theorem c_leadOfWord {c : Nat} {s b : Int} (hb : sh[c]? = some (4, 5)) (h0 : 0 ≤ s) (h1 : s < v c 2) (hb2 : b = 0 ∨ b = 1) (h2 : 0 ≤ v c 1) (h3 : v c 1 < 32) (h4 : v c 2 ≤ 5) : Cv g mX1_leadOfWord [aR c, aI s, aI b] (sh, rf, v) (retI (stW (v c 1) (v c 2) (fbits (v c 1) (v c 2) s * 2 + b) (s + 1).toNat) (sh, rf, v)) := by
  have hf := fb_rng (lo := v c 1) (hi := v c 2) (n := s) h2 h3
  refine x_entry (ls := [some (aR c), some (aI s), some (aI b), none, none, none]) rfl rfl (Nat.le_of_ble_eq_true rfl) ?_
  have key : ∀ n : Nat, (n : Int) ≤ v c 2 → ∀ o : Option AV, Wv g mX1_leadOfWord 0 0 15 [some (aR c), some (aI s), some (aI b), some (aI (fbits (v c 1) (v c 2) s * 2 + b)), some (aI (n : Int)), o] [] (sh, rf, v) (retI (stW (v c 1) (v c 2) (fbits (v c 1) (v c 2) s * 2 + b) n) (sh, rf, v)) := by
    intro n
    induction n with
    | zero =>
      intro hn o
      refine x_il (q := 17) dX1_leadOfWord_15 rfl rfl ?_
      refine x_if_le (t := 64) (q := 20) dX1_leadOfWord_17 rfl rfl (fun c_17 => ?_) (fun c_17 => ?_)
      · skip
        refine x_ic (q := 65) dX1_leadOfWord_64 rfl rfl ?_
        exact x_iret dX1_leadOfWord_65 rfl rfl (Nat.zero_le _) (retI_mk (by rfl))
      · skip
        exact absurd c_17 (by omega)
    | succ n ih =>
      intro hn o
      refine x_il (q := 17) dX1_leadOfWord_15 rfl rfl ?_
      refine x_if_le (t := 64) (q := 20) dX1_leadOfWord_17 rfl rfl (fun c_17 => ?_) (fun c_17 => ?_)
      · skip
        exact absurd c_17 (by omega)
      · skip
        refine x_il_n (q := 21) dX1_leadOfWord_20 rfl rfl ?_
        refine x_ic (q := 22) dX1_leadOfWord_21 rfl rfl ?_
        refine x_il (q := 24) dX1_leadOfWord_22 rfl rfl ?_
        refine x_pow (q := 25) dX1_leadOfWord_24 rfl (by omega) (by omega) ?_
        rw [Int.toNat_natCast]
        refine x_ic (q := 26) dX1_leadOfWord_25 rfl rfl ?_
        refine x_sub (q := 27) dX1_leadOfWord_26 rfl ⟨by have := pw_pos (n + 1); omega, by have := pw_le (k := n + 1) (n := 20) (by omega); omega⟩ ?_
        refine x_andM (q := 28) dX1_leadOfWord_27 rfl (by omega) ?_
        refine x_is5 (q := 30) dX1_leadOfWord_28 rfl rfl ?_
        refine x_il (q := 32) dX1_leadOfWord_30 rfl rfl ?_
        refine x_al_n (q := 33) dX1_leadOfWord_32 rfl rfl ?_
        refine x_il (q := 35) dX1_leadOfWord_33 rfl rfl ?_
        refine x_VI (q := 38) (ci := 1) dX1_leadOfWord_35 rfl kX1_leadOfWord_40 (c_firstBits (n := ((n + 1 : Nat) : Int)) hb h2 (by omega) (by omega) (by omega)) rfl rfl (by assumption) (by decide) rfl (Nat.le_of_ble_eq_true rfl) ⟨rfl, rfl⟩ ⟨Nat.zero_le _, Nat.zero_le _⟩ ?_
        refine x_ic_ne (t := 58) (q := 41) dX1_leadOfWord_38 rfl rfl (fun c_38 => ?_) (fun c_38 => ?_)
        · skip
          refine x_ii4 (q := 61) dX1_leadOfWord_58 rfl rfl ⟨by omega, by omega⟩ ?_
          refine x_goto (t := 15) dX1_leadOfWord_61 rfl ?_
          rw [show ((n + 1 : Nat) : Int) + -1 = (n : Int) by omega]
          unfold stW
          rw [if_neg c_38]
          exact ih (by omega) _
        · skip
          refine x_il (q := 43) dX1_leadOfWord_41 rfl rfl ?_
          refine x_al_n (q := 44) dX1_leadOfWord_43 rfl rfl ?_
          refine x_getI (q := 47) dX1_leadOfWord_44 rfl fX1_21 (by assumption) rfl ?_
          refine x_ic_ne (t := 55) (q := 50) dX1_leadOfWord_47 rfl rfl (fun c_47 => ?_) (fun c_47 => ?_)
          · skip
            refine x_il (q := 57) dX1_leadOfWord_55 rfl rfl ?_
            exact x_iret dX1_leadOfWord_57 rfl rfl (Nat.zero_le _) (retI_mk (by unfold stW; rw [if_pos c_38]; first | rw [if_pos c_47] | rw [if_neg c_47]))
          · skip
            refine x_bi (q := 52) dX1_leadOfWord_50 rfl rfl ?_
            refine x_goto (t := 57) dX1_leadOfWord_52 rfl ?_
            exact x_iret dX1_leadOfWord_57 rfl rfl (Nat.zero_le _) (retI_mk (by unfold stW; rw [if_pos c_38]; first | rw [if_pos c_47] | rw [if_neg c_47]))
  refine x_al_n (q := 1) dX1_leadOfWord_0 rfl rfl ?_
  refine x_il_n (q := 2) dX1_leadOfWord_1 rfl rfl ?_
  refine x_VI (q := 5) (ci := 1) dX1_leadOfWord_2 rfl kX1_leadOfWord_40 (c_firstBits hb h2 (by omega) (by omega) (by omega)) rfl rfl (by assumption) (by decide) rfl (Nat.le_of_ble_eq_true rfl) ⟨rfl, rfl⟩ ⟨Nat.zero_le _, Nat.zero_le _⟩ ?_
  refine x_ic (q := 6) dX1_leadOfWord_5 rfl rfl ?_
  refine x_shl (q := 7) dX1_leadOfWord_6 rfl (by omega) (by decide) (by decide) (show inI (_ * 2) from ⟨by omega, by omega⟩) ?_
  refine x_il_n (q := 8) dX1_leadOfWord_7 rfl rfl ?_
  refine x_or (q := 9) dX1_leadOfWord_8 rfl (show (0 : Int) ≤ _ * 2 by omega) (by omega) ?_
  rw [or_bit hf.1 hf.2 hb2]
  refine x_is3 (q := 10) dX1_leadOfWord_9 rfl rfl ?_
  refine x_il_n (q := 11) dX1_leadOfWord_10 rfl rfl ?_
  refine x_ic (q := 12) dX1_leadOfWord_11 rfl rfl ?_
  refine x_add (q := 13) dX1_leadOfWord_12 rfl ⟨by omega, by omega⟩ ?_
  refine x_is4 (q := 15) dX1_leadOfWord_13 rfl rfl ?_
  have hk := key (s + 1).toNat (by omega) none
  rw [Int.toNat_of_nonneg (by omega)] at hk
  exact hk
set_option maxHeartbeats 4000000 in
set_option maxRecDepth 100000 in
theorem c_lead {c : Nat} {s b : Int} (hb : sh[c]? = some (4, 5)) (hv : VBan (v c 0) (v c 1) (v c 2)) (h0 : 0 ≤ s) (h1 : s < nst (v c 0) (v c 1) (v c 2)) (hb2 : b = 0 ∨ b = 1) : Cv g mX1_lead [aR c, aI s, aI b] (sh, rf, v) (retI (stp (v c 0) (v c 1) (v c 2) s b) (sh, rf, v)) := by
  have hn := nst_rng hv
  refine x_entry (ls := [some (aR c), some (aI s), some (aI b)]) rfl rfl (Nat.le_of_ble_eq_true rfl) ?_
  refine x_al_n (q := 1) dX1_lead_0 rfl rfl ?_
  refine x_getI (q := 4) dX1_lead_1 rfl fX1_14 (by assumption) rfl ?_
  rcases hv with hv | hv | hv
  · have hs := hv.1
    rw [hs]
    refine x_look (t := 32) dX1_lead_4 rfl rfl rfl ?_
    refine x_al_n (q := 33) dX1_lead_32 rfl rfl ?_
    refine x_il_n (q := 34) dX1_lead_33 rfl rfl ?_
    refine x_il_n (q := 35) dX1_lead_34 rfl rfl ?_
    refine x_VI (q := 38) (ci := 1) dX1_lead_35 rfl kX1_lead_30 (c_leadOfRuns hb h0 (by omega)) rfl rfl (by assumption) (by decide) rfl (Nat.le_of_ble_eq_true rfl) ⟨rfl, rfl⟩ ⟨Nat.zero_le _, Nat.zero_le _⟩ ?_
    exact x_iret dX1_lead_38 rfl rfl (Nat.zero_le _) (retI_mk (by unfold stp; rfl))
  · have hs := hv.1
    rw [hs]
    refine x_look (t := 39) dX1_lead_4 rfl rfl rfl ?_
    refine x_al_n (q := 40) dX1_lead_39 rfl rfl ?_
    refine x_il_n (q := 41) dX1_lead_40 rfl rfl ?_
    refine x_il_n (q := 42) dX1_lead_41 rfl rfl ?_
    refine x_VI (q := 45) (ci := 1) dX1_lead_42 rfl kX1_lead_34 (c_leadOfCharge hb h0 (by omega) (by omega) (by omega)) rfl rfl (by assumption) (by decide) rfl (Nat.le_of_ble_eq_true rfl) ⟨rfl, rfl⟩ ⟨Nat.zero_le _, Nat.zero_le _⟩ ?_
    exact x_iret dX1_lead_45 rfl rfl (Nat.zero_le _) (retI_mk (by unfold stp; rfl))
  · have hs := hv.1
    rw [hs]
    refine x_look (t := 46) dX1_lead_4 rfl rfl rfl ?_
    have hnst : nst (v c 0) (v c 1) (v c 2) = v c 2 := by unfold nst; rw [hs]; rfl
    refine x_al_n (q := 47) dX1_lead_46 rfl rfl ?_
    refine x_il_n (q := 48) dX1_lead_47 rfl rfl ?_
    refine x_il_n (q := 49) dX1_lead_48 rfl rfl ?_
    refine x_VI (q := 52) (ci := 1) dX1_lead_49 rfl kX1_lead_37 (c_leadOfWord hb h0 (by omega) hb2 (by omega) (by omega) (by omega)) rfl rfl (by assumption) (by decide) rfl (Nat.le_of_ble_eq_true rfl) ⟨rfl, rfl⟩ ⟨Nat.zero_le _, Nat.zero_le _⟩ ?_
    exact x_iret dX1_lead_52 rfl rfl (Nat.zero_le _) (retI_mk (by unfold stp; rfl))
def setBan (v : Nat → Nat → Int) (c : Nat) (z : Cfg) : Nat → Nat → Int := up (up (up (up (up v c 0 z.1) c 1 z.2.1) c 2 z.2.2.1) c 3 z.2.2.2.1) c 4 z.2.2.2.2
theorem setBan_n {v : Nat → Nat → Int} {c d : Nat} {z : Cfg} (h : d ≠ c) : setBan v c z d = v d := by unfold setBan; rw [up_n _ _ _ h, up_n _ _ _ h, up_n _ _ _ h, up_n _ _ _ h, up_n _ _ _ h]
theorem setBan_b {v : Nat → Nat → Int} {c : Nat} {z : Cfg} : banOf (setBan v c z) c = z := by simp [banOf, setBan, up]
set_option maxHeartbeats 4000000 in
set_option maxRecDepth 100000 in
theorem c_setFirst {c : Nat} (hb : sh[c]? = some (4, 5)) : Cv g mX1_setFirst [aR c] (sh, rf, v) (retV (sh, rf, setBan v c (0, 1, 3, 1, 2))) := by
  refine x_entry (ls := [some (aR c)]) rfl rfl (Nat.le_of_ble_eq_true rfl) ?_
  refine x_al_n (q := 1) dX1_setFirst_0 rfl rfl ?_
  refine x_ic (q := 2) dX1_setFirst_1 rfl rfl ?_
  refine x_putI (q := 5) dX1_setFirst_2 rfl fX1_14 (by assumption) (.inl rfl) rfl ?_
  refine x_al_n (q := 6) dX1_setFirst_5 rfl rfl ?_
  refine x_ic (q := 7) dX1_setFirst_6 rfl rfl ?_
  refine x_putI (q := 10) dX1_setFirst_7 rfl fX1_18 (by assumption) (.inl rfl) rfl ?_
  refine x_al_n (q := 11) dX1_setFirst_10 rfl rfl ?_
  refine x_ic (q := 12) dX1_setFirst_11 rfl rfl ?_
  refine x_putI (q := 15) dX1_setFirst_12 rfl fX1_21 (by assumption) (.inl rfl) rfl ?_
  refine x_al_n (q := 16) dX1_setFirst_15 rfl rfl ?_
  refine x_ic (q := 17) dX1_setFirst_16 rfl rfl ?_
  refine x_putI (q := 20) dX1_setFirst_17 rfl fX1_24 (by assumption) (.inl rfl) rfl ?_
  refine x_al_n (q := 21) dX1_setFirst_20 rfl rfl ?_
  refine x_ic (q := 22) dX1_setFirst_21 rfl rfl ?_
  refine x_putI (q := 25) dX1_setFirst_22 rfl fX1_27 (by assumption) (.inl rfl) rfl ?_
  exact x_vret dX1_setFirst_25 rfl rfl (Nat.zero_le _) (by exact ⟨rfl, rfl⟩)
set_option maxHeartbeats 4000000 in
set_option maxRecDepth 100000 in
theorem c_banInit {c : Nat} (hb : sh[c]? = some (4, 5)) : Cv g mX1_init [aR c] (sh, rf, v) (retV (sh, rf, setBan v c (0, 1, 3, 1, 2))) := by
  refine x_entry (ls := [some (aR c)]) rfl rfl (Nat.le_of_ble_eq_true rfl) ?_
  refine x_al_n (q := 1) dX1_init_0 rfl rfl ?_
  refine x_obj (q := 4) dX1_init_1 rfl q117 q86 q87 (Nat.le_of_ble_eq_true rfl) (Nat.le_of_ble_eq_true rfl) (Nat.le_of_ble_eq_true rfl) ?_
  refine x_al_n (q := 5) dX1_init_4 rfl rfl ?_
  refine x_V (q := 8) (ci := 1) dX1_init_5 rfl kX1_init_9 (c_setFirst hb) rfl rfl (by assumption) (by decide) rfl (Nat.le_of_ble_eq_true rfl) ⟨rfl, rfl⟩ ⟨Nat.zero_le _, Nat.zero_le _⟩ (fun r1 h1 hp => ?_)
  obtain ⟨rfl, rfl⟩ := hp
  exact x_vret dX1_init_8 rfl rfl (Nat.zero_le _) (by exact ⟨rfl, rfl⟩)
set_option maxHeartbeats 4000000 in
set_option maxRecDepth 100000 in
theorem c_banCopy {c d : Nat} (hb : sh[c]? = some (4, 5)) (hd : sh[d]? = some (4, 5)) (hcd : d ≠ c) : Cv g mX1_copy [aR c, aR d] (sh, rf, v) (retV (sh, rf, setBan v c (banOf v d))) := by
  refine x_entry (ls := [some (aR c), some (aR d)]) rfl rfl (Nat.le_of_ble_eq_true rfl) ?_
  refine x_al_n (q := 1) dX1_copy_0 rfl rfl ?_
  refine x_al_n (q := 2) dX1_copy_1 rfl rfl ?_
  refine x_getI (q := 5) dX1_copy_2 rfl fX1_14 (by assumption) rfl ?_
  refine x_putI (q := 8) dX1_copy_5 rfl fX1_14 (by assumption) (.inl rfl) rfl ?_
  refine x_al_n (q := 9) dX1_copy_8 rfl rfl ?_
  refine x_al_n (q := 10) dX1_copy_9 rfl rfl ?_
  refine x_getI (q := 13) dX1_copy_10 rfl fX1_18 (by assumption) rfl ?_
  refine x_putI (q := 16) dX1_copy_13 rfl fX1_18 (by assumption) (.inl rfl) rfl ?_
  refine x_al_n (q := 17) dX1_copy_16 rfl rfl ?_
  refine x_al_n (q := 18) dX1_copy_17 rfl rfl ?_
  refine x_getI (q := 21) dX1_copy_18 rfl fX1_21 (by assumption) rfl ?_
  refine x_putI (q := 24) dX1_copy_21 rfl fX1_21 (by assumption) (.inl rfl) rfl ?_
  refine x_al_n (q := 25) dX1_copy_24 rfl rfl ?_
  refine x_al_n (q := 26) dX1_copy_25 rfl rfl ?_
  refine x_getI (q := 29) dX1_copy_26 rfl fX1_24 (by assumption) rfl ?_
  refine x_putI (q := 32) dX1_copy_29 rfl fX1_24 (by assumption) (.inl rfl) rfl ?_
  refine x_al_n (q := 33) dX1_copy_32 rfl rfl ?_
  refine x_al_n (q := 34) dX1_copy_33 rfl rfl ?_
  refine x_getI (q := 37) dX1_copy_34 rfl fX1_27 (by assumption) rfl ?_
  refine x_putI (q := 40) dX1_copy_37 rfl fX1_27 (by assumption) (.inl rfl) rfl ?_
  exact x_vret dX1_copy_40 rfl rfl (Nat.zero_le _) (by refine ⟨rfl, ?_⟩; simp only [setBan, banOf, up_n _ _ _ hcd])
end BAN

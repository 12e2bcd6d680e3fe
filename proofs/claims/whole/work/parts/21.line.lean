/-! ===== Integer.bitCount, Line, Held ===== -/
def pcnt (x : Int) : Int := x % 2 + x / 2 % 2 + x / 4 % 2 + x / 8 % 2 + x / 16 % 2 + x / 32 % 2 + x / 64 % 2
set_option maxHeartbeats 4000000 in
set_option maxRecDepth 100000 in
theorem c_bitCount {g : GL} {h : AH} {z : Int} (h0 : 0 ≤ z) (h1 : z < 128) : Cv g mJ6_bitCount_0f7a4 [aI z] h (retI (pcnt z) h) := by
  refine x_entry (ls := [some (aI z)]) rfl rfl (Nat.le_of_ble_eq_true rfl) ?_
  refine x_il_n (q := 1) dJ6_bitCount_0f7a4_0 rfl rfl ?_
  refine x_il_n (q := 2) dJ6_bitCount_0f7a4_1 rfl rfl ?_
  refine x_ic (q := 3) dJ6_bitCount_0f7a4_2 rfl rfl ?_
  refine x_ushrG (q := 4) dJ6_bitCount_0f7a4_3 rfl ?_
  refine x_ldcw (q := 7) dJ6_bitCount_0f7a4_4 rfl q621 rfl ?_
  refine x_andG (q := 8) dJ6_bitCount_0f7a4_7 rfl ?_
  refine x_subG (q := 9) dJ6_bitCount_0f7a4_8 rfl ?_
  refine x_is0 (q := 10) dJ6_bitCount_0f7a4_9 rfl ?_
  refine x_il_n (q := 11) dJ6_bitCount_0f7a4_10 rfl rfl ?_
  refine x_ldcw (q := 14) dJ6_bitCount_0f7a4_11 rfl q622 rfl ?_
  refine x_andG (q := 15) dJ6_bitCount_0f7a4_14 rfl ?_
  refine x_il_n (q := 16) dJ6_bitCount_0f7a4_15 rfl rfl ?_
  refine x_ic (q := 17) dJ6_bitCount_0f7a4_16 rfl rfl ?_
  refine x_ushrG (q := 18) dJ6_bitCount_0f7a4_17 rfl ?_
  refine x_ldcw (q := 21) dJ6_bitCount_0f7a4_18 rfl q622 rfl ?_
  refine x_andG (q := 22) dJ6_bitCount_0f7a4_21 rfl ?_
  refine x_addw (q := 23) dJ6_bitCount_0f7a4_22 rfl ?_
  refine x_is0 (q := 24) dJ6_bitCount_0f7a4_23 rfl ?_
  refine x_il_n (q := 25) dJ6_bitCount_0f7a4_24 rfl rfl ?_
  refine x_il_n (q := 26) dJ6_bitCount_0f7a4_25 rfl rfl ?_
  refine x_ic (q := 27) dJ6_bitCount_0f7a4_26 rfl rfl ?_
  refine x_ushrG (q := 28) dJ6_bitCount_0f7a4_27 rfl ?_
  refine x_addw (q := 29) dJ6_bitCount_0f7a4_28 rfl ?_
  refine x_ldcw (q := 32) dJ6_bitCount_0f7a4_29 rfl q623 rfl ?_
  refine x_andG (q := 33) dJ6_bitCount_0f7a4_32 rfl ?_
  refine x_is0 (q := 34) dJ6_bitCount_0f7a4_33 rfl ?_
  refine x_il_n (q := 35) dJ6_bitCount_0f7a4_34 rfl rfl ?_
  refine x_il_n (q := 36) dJ6_bitCount_0f7a4_35 rfl rfl ?_
  refine x_bi (q := 38) dJ6_bitCount_0f7a4_36 rfl rfl ?_
  refine x_ushrG (q := 39) dJ6_bitCount_0f7a4_38 rfl ?_
  refine x_addw (q := 40) dJ6_bitCount_0f7a4_39 rfl ?_
  refine x_is0 (q := 41) dJ6_bitCount_0f7a4_40 rfl ?_
  refine x_il_n (q := 42) dJ6_bitCount_0f7a4_41 rfl rfl ?_
  refine x_il_n (q := 43) dJ6_bitCount_0f7a4_42 rfl rfl ?_
  refine x_bi (q := 45) dJ6_bitCount_0f7a4_43 rfl rfl ?_
  refine x_ushrG (q := 46) dJ6_bitCount_0f7a4_45 rfl ?_
  refine x_addw (q := 47) dJ6_bitCount_0f7a4_46 rfl ?_
  refine x_is0 (q := 48) dJ6_bitCount_0f7a4_47 rfl ?_
  refine x_il_n (q := 49) dJ6_bitCount_0f7a4_48 rfl rfl ?_
  refine x_bi (q := 51) dJ6_bitCount_0f7a4_49 rfl rfl ?_
  refine x_andG (q := 52) dJ6_bitCount_0f7a4_51 rfl ?_
  exact x_iret dJ6_bitCount_0f7a4_52 rfl rfl (Nat.zero_le _) (retI_mk (by obtain ⟨n, rfl⟩ := Int.eq_ofNat_of_zero_le h0; have hn : n < 128 := (by omega); clear h0 h1; revert n; decide +kernel))
def LineAt (sh : List (Nat × Nat)) (rf : Nat → Nat → Option Nat) (l : Nat) : Prop := sh[l]? = some (6, 5) ∧ sh[l + 1]? = some (0, 24) ∧ sh[l + 2]? = some (0, 24) ∧ sh[l + 3]? = some (0, 24) ∧ rf l 0 = some (l + 1) ∧ rf l 1 = some (l + 2) ∧ rf l 2 = some (l + 3)
def HeldAt (sh : List (Nat × Nat)) (rf : Nat → Nat → Option Nat) (e : Nat) : Prop := sh[e]? = some (5, 2) ∧ sh[e + 1]? = some (4, 5) ∧ rf e 0 = some (e + 1) ∧ rf e 1 = some (e + 2) ∧ LineAt sh rf (e + 2)
section LIN
variable {g : GL} {sh : List (Nat × Nat)} {rf : Nat → Nat → Option Nat} {v : Nat → Nat → Int}

set_option maxHeartbeats 4000000 in
set_option maxRecDepth 100000 in
theorem c_empty {l : Nat} {b : Int} (hl : LineAt sh rf l) : Cv g mX3_empty [aR l, aI b] (sh, rf, v) (retV (sh, rf, up (up v l 3 0) l 4 b)) := by
  obtain ⟨a1, a2, a3, a4, a5, a6, a7⟩ := hl
  refine x_entry (ls := [some (aR l), some (aI b)]) rfl rfl (Nat.le_of_ble_eq_true rfl) ?_
  refine x_al_n (q := 1) dX3_empty_0 rfl rfl ?_
  refine x_ic (q := 2) dX3_empty_1 rfl rfl ?_
  refine x_putI (q := 5) dX3_empty_2 rfl fX3_21 (by assumption) (.inl rfl) rfl ?_
  refine x_al_n (q := 6) dX3_empty_5 rfl rfl ?_
  refine x_il_n (q := 7) dX3_empty_6 rfl rfl ?_
  refine x_putI (q := 10) dX3_empty_7 rfl fX3_25 (by assumption) (.inl rfl) rfl ?_
  exact x_vret dX3_empty_10 rfl rfl (Nat.zero_le _) (by exact ⟨rfl, rfl⟩)
set_option maxHeartbeats 4000000 in
set_option maxRecDepth 100000 in
theorem c_wordAt {l : Nat} {i : Int} (hl : LineAt sh rf l) : Cv g mX3_wordAt [aR l, aI i] (sh, rf, v) (retI (if 0 ≤ i ∧ i < 24 then v (l + 1) i.toNat else -9) (sh, rf, v)) := by
  obtain ⟨a1, a2, a3, a4, a5, a6, a7⟩ := hl
  refine x_entry (ls := [some (aR l), some (aI i)]) rfl rfl (Nat.le_of_ble_eq_true rfl) ?_
  refine x_il_n (q := 1) dX3_wordAt_0 rfl rfl ?_
  refine x_if_lt (t := 10) (q := 4) dX3_wordAt_1 rfl rfl (fun c_1 => ?_) (fun c_1 => ?_)
  · skip
    refine x_bi (q := 12) dX3_wordAt_10 rfl rfl ?_
    refine x_goto (t := 21) dX3_wordAt_12 rfl ?_
    exact x_iret dX3_wordAt_21 rfl rfl (Nat.zero_le _) (retI_mk (by first | rw [if_neg (by omega)] | rw [if_pos (by omega)]))
  · skip
    refine x_il_n (q := 5) dX3_wordAt_4 rfl rfl ?_
    refine x_bi (q := 7) dX3_wordAt_5 rfl rfl ?_
    refine x_ic_lt (t := 15) (q := 10) dX3_wordAt_7 rfl rfl (fun c_7 => ?_) (fun c_7 => ?_)
    · skip
      refine x_al_n (q := 16) dX3_wordAt_15 rfl rfl ?_
      refine x_getR (q := 19) (o := some (l + 1)) dX3_wordAt_16 rfl fX3_9 (by assumption) rfl (by assumption) ?_
      refine x_il_n (q := 20) dX3_wordAt_19 rfl rfl ?_
      refine x_iald (q := 21) dX3_wordAt_20 rfl (by assumption) (by omega) (by omega) ?_
      exact x_iret dX3_wordAt_21 rfl rfl (Nat.zero_le _) (retI_mk (by first | rw [if_neg (by omega)] | rw [if_pos (by omega)]))
    · skip
      refine x_bi (q := 12) dX3_wordAt_10 rfl rfl ?_
      refine x_goto (t := 21) dX3_wordAt_12 rfl ?_
      exact x_iret dX3_wordAt_21 rfl rfl (Nat.zero_le _) (retI_mk (by first | rw [if_neg (by omega)] | rw [if_pos (by omega)]))
set_option maxHeartbeats 4000000 in
set_option maxRecDepth 100000 in
theorem c_tagAt {l : Nat} {i : Int} (hl : LineAt sh rf l) : Cv g mX3_tagAt [aR l, aI i] (sh, rf, v) (retI (if 0 ≤ i ∧ i < 24 then v (l + 3) i.toNat else -9) (sh, rf, v)) := by
  obtain ⟨a1, a2, a3, a4, a5, a6, a7⟩ := hl
  refine x_entry (ls := [some (aR l), some (aI i)]) rfl rfl (Nat.le_of_ble_eq_true rfl) ?_
  refine x_il_n (q := 1) dX3_tagAt_0 rfl rfl ?_
  refine x_if_lt (t := 10) (q := 4) dX3_tagAt_1 rfl rfl (fun c_1 => ?_) (fun c_1 => ?_)
  · skip
    refine x_bi (q := 12) dX3_tagAt_10 rfl rfl ?_
    refine x_goto (t := 21) dX3_tagAt_12 rfl ?_
    exact x_iret dX3_tagAt_21 rfl rfl (Nat.zero_le _) (retI_mk (by first | rw [if_neg (by omega)] | rw [if_pos (by omega)]))
  · skip
    refine x_il_n (q := 5) dX3_tagAt_4 rfl rfl ?_
    refine x_bi (q := 7) dX3_tagAt_5 rfl rfl ?_
    refine x_ic_lt (t := 15) (q := 10) dX3_tagAt_7 rfl rfl (fun c_7 => ?_) (fun c_7 => ?_)
    · skip
      refine x_al_n (q := 16) dX3_tagAt_15 rfl rfl ?_
      refine x_getR (q := 19) (o := some (l + 3)) dX3_tagAt_16 rfl fX3_18 (by assumption) rfl (by assumption) ?_
      refine x_il_n (q := 20) dX3_tagAt_19 rfl rfl ?_
      refine x_iald (q := 21) dX3_tagAt_20 rfl (by assumption) (by omega) (by omega) ?_
      exact x_iret dX3_tagAt_21 rfl rfl (Nat.zero_le _) (retI_mk (by first | rw [if_neg (by omega)] | rw [if_pos (by omega)]))
    · skip
      refine x_bi (q := 12) dX3_tagAt_10 rfl rfl ?_
      refine x_goto (t := 21) dX3_tagAt_12 rfl ?_
      exact x_iret dX3_tagAt_21 rfl rfl (Nat.zero_le _) (retI_mk (by first | rw [if_neg (by omega)] | rw [if_pos (by omega)]))
def appL (v : Nat → Nat → Int) (l : Nat) (s t n : Int) : Nat → Nat → Int := up (up (up (up (up v (l + 1) (v l 3).toNat s) (l + 2) (v l 3).toNat s) (l + 3) (v l 3).toNat t) l 3 (v l 3 + 1)) l 4 n
set_option maxHeartbeats 4000000 in
set_option maxRecDepth 100000 in
theorem c_append {l : Nat} {s t n : Int} (hl : LineAt sh rf l) (h0 : 0 ≤ v l 3) (h1 : v l 3 < 24) : Cv g mX3_append [aR l, aI s, aI t, aI n] (sh, rf, v) (retV (sh, rf, appL v l s t n)) := by
  obtain ⟨a1, a2, a3, a4, a5, a6, a7⟩ := hl
  refine x_entry (ls := [some (aR l), some (aI s), some (aI t), some (aI n)]) rfl rfl (Nat.le_of_ble_eq_true rfl) ?_
  refine x_al_n (q := 1) dX3_append_0 rfl rfl ?_
  refine x_getI (q := 4) dX3_append_1 rfl fX3_21 (by assumption) rfl ?_
  refine x_if_lt (t := 16) (q := 7) dX3_append_4 rfl rfl (fun c_4 => ?_) (fun c_4 => ?_)
  · skip
    exact absurd c_4 (by omega)
  · skip
    refine x_al_n (q := 8) dX3_append_7 rfl rfl ?_
    refine x_getI (q := 11) dX3_append_8 rfl fX3_21 (by assumption) rfl ?_
    refine x_bi (q := 13) dX3_append_11 rfl rfl ?_
    refine x_ic_lt (t := 17) (q := 16) dX3_append_13 rfl rfl (fun c_13 => ?_) (fun c_13 => ?_)
    · skip
      refine x_al_n (q := 18) dX3_append_17 rfl rfl ?_
      refine x_getR (q := 21) (o := some (l + 1)) dX3_append_18 rfl fX3_9 (by assumption) rfl (by assumption) ?_
      refine x_al_n (q := 22) dX3_append_21 rfl rfl ?_
      refine x_getI (q := 25) dX3_append_22 rfl fX3_21 (by assumption) rfl ?_
      refine x_il_n (q := 26) dX3_append_25 rfl rfl ?_
      refine x_iast (q := 27) dX3_append_26 rfl (by assumption) (by omega) (by omega) ?_
      refine x_al_n (q := 28) dX3_append_27 rfl rfl ?_
      refine x_getR (q := 31) (o := some (l + 2)) dX3_append_28 rfl fX3_15 (by assumption) rfl (by assumption) ?_
      refine x_al_n (q := 32) dX3_append_31 rfl rfl ?_
      refine x_getIe (q := 35) (z := v l 3) dX3_append_32 rfl fX3_21 (by assumption) rfl (by simp [up]) ?_
      refine x_il_n (q := 36) dX3_append_35 rfl rfl ?_
      refine x_iast (q := 37) dX3_append_36 rfl (by assumption) (by omega) (by omega) ?_
      refine x_al_n (q := 38) dX3_append_37 rfl rfl ?_
      refine x_getR (q := 41) (o := some (l + 3)) dX3_append_38 rfl fX3_18 (by assumption) rfl (by assumption) ?_
      refine x_al_n (q := 42) dX3_append_41 rfl rfl ?_
      refine x_getIe (q := 45) (z := v l 3) dX3_append_42 rfl fX3_21 (by assumption) rfl (by simp [up]) ?_
      refine x_il_n (q := 46) dX3_append_45 rfl rfl ?_
      refine x_iast (q := 47) dX3_append_46 rfl (by assumption) (by omega) (by omega) ?_
      refine x_al_n (q := 48) dX3_append_47 rfl rfl ?_
      refine x_dup (q := 49) dX3_append_48 rfl rfl ?_
      refine x_getIe (q := 52) (z := v l 3) dX3_append_49 rfl fX3_21 (by assumption) rfl (by simp [up]) ?_
      refine x_ic (q := 53) dX3_append_52 rfl rfl ?_
      refine x_add (q := 54) dX3_append_53 rfl ⟨by omega, by omega⟩ ?_
      refine x_putI (q := 57) dX3_append_54 rfl fX3_21 (by assumption) (.inl rfl) rfl ?_
      refine x_al_n (q := 58) dX3_append_57 rfl rfl ?_
      refine x_il_n (q := 59) dX3_append_58 rfl rfl ?_
      refine x_putI (q := 62) dX3_append_59 rfl fX3_25 (by assumption) (.inl rfl) rfl ?_
      exact x_vret dX3_append_62 rfl rfl (Nat.zero_le _) (by exact ⟨rfl, rfl⟩)
    · skip
      exact absurd h1 c_13
set_option maxHeartbeats 4000000 in
set_option maxRecDepth 100000 in
theorem c_turn {l : Nat} {i p : Int} (hl : LineAt sh rf l) (h0 : 0 ≤ i) (h1 : i < 24) (h2 : 0 ≤ p) (h3 : p ≤ 20) (h4 : 0 ≤ v (l + 1) i.toNat) : Cv g mX3_turn [aR l, aI i, aI p] (sh, rf, v) (retI (((v (l + 1) i.toNat).toNat ^^^ (2 ^ p.toNat : Int).toNat : Nat) / 2 ^ p.toNat % 2) (sh, rf, up v (l + 1) i.toNat ((v (l + 1) i.toNat).toNat ^^^ (2 ^ p.toNat : Int).toNat : Nat))) := by
  obtain ⟨a1, a2, a3, a4, a5, a6, a7⟩ := hl
  refine x_entry (ls := [some (aR l), some (aI i), some (aI p)]) rfl rfl (Nat.le_of_ble_eq_true rfl) ?_
  refine x_il_n (q := 1) dX3_turn_0 rfl rfl ?_
  refine x_if_lt (t := 10) (q := 4) dX3_turn_1 rfl rfl (fun c_1 => ?_) (fun c_1 => ?_)
  · skip
    exact absurd c_1 (by omega)
  · skip
    refine x_il_n (q := 5) dX3_turn_4 rfl rfl ?_
    refine x_bi (q := 7) dX3_turn_5 rfl rfl ?_
    refine x_ic_lt (t := 12) (q := 10) dX3_turn_7 rfl rfl (fun c_7 => ?_) (fun c_7 => ?_)
    · skip
      refine x_al_n (q := 13) dX3_turn_12 rfl rfl ?_
      refine x_getR (q := 16) (o := some (l + 1)) dX3_turn_13 rfl fX3_9 (by assumption) rfl (by assumption) ?_
      refine x_il_n (q := 17) dX3_turn_16 rfl rfl ?_
      refine x_dup2 (q := 18) dX3_turn_17 rfl rfl rfl ?_
      refine x_iald (q := 19) dX3_turn_18 rfl (by assumption) (by omega) (by omega) ?_
      refine x_ic (q := 20) dX3_turn_19 rfl rfl ?_
      refine x_il_n (q := 21) dX3_turn_20 rfl rfl ?_
      refine x_pow (q := 22) dX3_turn_21 rfl h2 h3 ?_
      refine x_xor (q := 23) dX3_turn_22 rfl h4 (Int.le_of_lt (pw_pos _)) ?_
      refine x_iast (q := 24) dX3_turn_23 rfl (by assumption) (by omega) (by omega) ?_
      refine x_al_n (q := 25) dX3_turn_24 rfl rfl ?_
      refine x_getR (q := 28) (o := some (l + 1)) dX3_turn_25 rfl fX3_9 (by assumption) rfl (by assumption) ?_
      refine x_il_n (q := 29) dX3_turn_28 rfl rfl ?_
      refine x_ialde (q := 30) (z := ((v (l + 1) i.toNat).toNat ^^^ (2 ^ p.toNat : Int).toNat : Nat)) dX3_turn_29 rfl (by assumption) (by omega) (by omega) (by simp [up]) ?_
      refine x_il_n (q := 31) dX3_turn_30 rfl rfl ?_
      refine x_shr (q := 32) dX3_turn_31 rfl (by omega) (by omega) (by omega) ?_
      refine x_ic (q := 33) dX3_turn_32 rfl rfl ?_
      refine x_and1 (q := 34) dX3_turn_33 rfl (by first | exact nn_dv (by omega) | omega) ?_
      exact x_iret dX3_turn_34 rfl rfl (Nat.zero_le _) (retI_mk (by rfl))
    · skip
      exact absurd h1 c_7
def tbits (v : Nat → Nat → Int) (l : Nat) : Nat → Int
  | 0 => 0
  | n + 1 => tbits v l n + pcnt (((v (l + 1) n).toNat ^^^ (v (l + 2) n).toNat : Nat) : Int)
theorem pcnt_rng {x : Int} : 0 ≤ pcnt x ∧ pcnt x ≤ 7 := by unfold pcnt; omega
theorem tbits_rng {l : Nat} : ∀ n, 0 ≤ tbits v l n ∧ tbits v l n ≤ 7 * n
  | 0 => by simp [tbits]
  | n + 1 => by
    have h1 := tbits_rng (l := l) n
    have h2 := pcnt_rng (x := (((v (l + 1) n).toNat ^^^ (v (l + 2) n).toNat : Nat) : Int))
    unfold tbits
    omega
theorem xor16 {a b : Int} (h0 : 0 ≤ a) (h1 : a < 16) (h2 : 0 ≤ b) (h3 : b < 16) : ((a.toNat ^^^ b.toNat : Nat) : Int) < 16 := by
  have := Nat.xor_lt_two_pow (n := 4) (x := a.toNat) (y := b.toNat) (by omega) (by omega)
  omega
set_option maxHeartbeats 4000000 in
set_option maxRecDepth 100000 in
theorem c_turnedBits {l : Nat} (hl : LineAt sh rf l) (h0 : 0 ≤ v l 3) (h1 : v l 3 ≤ 24) (hw : ∀ j : Nat, (j : Int) < v l 3 → 0 ≤ v (l + 1) j ∧ v (l + 1) j < 16 ∧ 0 ≤ v (l + 2) j ∧ v (l + 2) j < 16) : Cv g mX3_turnedBits [aR l] (sh, rf, v) (retI (tbits v l (v l 3).toNat) (sh, rf, v)) := by
  obtain ⟨a1, a2, a3, a4, a5, a6, a7⟩ := hl
  refine x_entry (ls := [some (aR l), none, none]) rfl rfl (Nat.le_of_ble_eq_true rfl) ?_
  refine x_ic (q := 1) dX3_turnedBits_0 rfl rfl ?_
  refine x_is1 (q := 2) dX3_turnedBits_1 rfl rfl ?_
  refine x_ic (q := 3) dX3_turnedBits_2 rfl rfl ?_
  refine x_is2 (q := 4) dX3_turnedBits_3 rfl rfl ?_
  refine x_up (S := fun i => Wv g mX3_turnedBits 0 0 4 [some (aR l), some (aI (tbits v l i)), some (aI (i : Int))] [] (sh, rf, v) (retI (tbits v l (v l 3).toNat) (sh, rf, v))) (v l 3).toNat ?_ ?_ 0 (Nat.zero_le _)
  · have hb := tbits_rng (v := v) (l := l) (v l 3).toNat
    refine x_il_n (q := 5) dX3_turnedBits_4 rfl rfl ?_
    refine x_al_n (q := 6) dX3_turnedBits_5 rfl rfl ?_
    refine x_getI (q := 9) dX3_turnedBits_6 rfl fX3_21 (by assumption) rfl ?_
    refine x_ic_ge (t := 43) (q := 12) dX3_turnedBits_9 rfl rfl (fun c_9 => ?_) (fun c_9 => ?_)
    · skip
      refine x_il_n (q := 44) dX3_turnedBits_43 rfl rfl ?_
      exact x_iret dX3_turnedBits_44 rfl rfl (Nat.zero_le _) (retI_mk (by rfl))
    · skip
      exact absurd (by omega) c_9
  · intro i hi ih
    have hb := tbits_rng (v := v) (l := l) i
    have hwi := hw i (by omega)
    have hx := xor16 hwi.1 hwi.2.1 hwi.2.2.1 hwi.2.2.2
    refine x_il_n (q := 5) dX3_turnedBits_4 rfl rfl ?_
    refine x_al_n (q := 6) dX3_turnedBits_5 rfl rfl ?_
    refine x_getI (q := 9) dX3_turnedBits_6 rfl fX3_21 (by assumption) rfl ?_
    refine x_ic_ge (t := 43) (q := 12) dX3_turnedBits_9 rfl rfl (fun c_9 => ?_) (fun c_9 => ?_)
    · skip
      exact absurd c_9 (by omega)
    · skip
      refine x_il_n (q := 13) dX3_turnedBits_12 rfl rfl ?_
      refine x_bi (q := 15) dX3_turnedBits_13 rfl rfl ?_
      refine x_ic_ge (t := 43) (q := 18) dX3_turnedBits_15 rfl rfl (fun c_15 => ?_) (fun c_15 => ?_)
      · skip
        exact absurd c_15 (by omega)
      · skip
        refine x_il_n (q := 19) dX3_turnedBits_18 rfl rfl ?_
        refine x_al_n (q := 20) dX3_turnedBits_19 rfl rfl ?_
        refine x_getR (q := 23) (o := some (l + 1)) dX3_turnedBits_20 rfl fX3_9 (by assumption) rfl (by assumption) ?_
        refine x_il_n (q := 24) dX3_turnedBits_23 rfl rfl ?_
        refine x_ialde (q := 25) (z := v (l + 1) i) dX3_turnedBits_24 rfl (by assumption) (by omega) (by omega) (by rw [Int.toNat_natCast]) ?_
        refine x_al_n (q := 26) dX3_turnedBits_25 rfl rfl ?_
        refine x_getR (q := 29) (o := some (l + 2)) dX3_turnedBits_26 rfl fX3_15 (by assumption) rfl (by assumption) ?_
        refine x_il_n (q := 30) dX3_turnedBits_29 rfl rfl ?_
        refine x_ialde (q := 31) (z := v (l + 2) i) dX3_turnedBits_30 rfl (by assumption) (by omega) (by omega) (by rw [Int.toNat_natCast]) ?_
        refine x_xor (q := 32) dX3_turnedBits_31 rfl (by first | exact nn_dv (by omega) | omega) (by first | decide | exact nn_dv (by omega) | omega) ?_
        refine x_SI (q := 35) dX3_turnedBits_32 rfl kX3_turnedBits_34 (c_bitCount (by omega) (by omega)) rfl rfl (Nat.le_of_ble_eq_true rfl) ⟨rfl, rfl⟩ ⟨Nat.zero_le _, Nat.zero_le _⟩ ?_
        have hpc := pcnt_rng (x := (((v (l + 1) i).toNat ^^^ (v (l + 2) i).toNat : Nat) : Int))
        refine x_add (q := 36) dX3_turnedBits_35 rfl ⟨by omega, by omega⟩ ?_
        refine x_is1 (q := 37) dX3_turnedBits_36 rfl rfl ?_
        refine x_ii2 (q := 40) dX3_turnedBits_37 rfl rfl ⟨by omega, by omega⟩ ?_
        refine x_goto (t := 4) dX3_turnedBits_40 rfl ?_
        exact ih
theorem banOf_cong {v v2 : Nat → Nat → Int} {c : Nat} (h : v2 c = v c) : banOf v2 c = banOf v c := by unfold banOf; rw [h]
def SameL (v : Nat → Nat → Int) (m : Nat) (v' : Nat → Nat → Int) (l : Nat) : Prop := v' l 3 = v m 3 ∧ v' l 4 = v m 4 ∧ ∀ j, j < 24 → v' (l + 1) j = v (m + 1) j ∧ v' (l + 2) j = v (m + 2) j ∧ v' (l + 3) j = v (m + 3) j
def SameH (v : Nat → Nat → Int) (d : Nat) (v' : Nat → Nat → Int) (e : Nat) : Prop := banOf v' (e + 1) = banOf v (d + 1) ∧ SameL v (d + 2) v' (e + 2)
def putL (P : (Nat → Nat → Int) → Prop) (sh : List (Nat × Nat)) (rf : Nat → Nat → Option Nat) : PT := fun r h' => r = none ∧ ∃ v', h' = (sh, rf, v') ∧ P v'
set_option maxHeartbeats 4000000 in
set_option maxRecDepth 100000 in
theorem c_lineCopy {l m : Nat} (hl : LineAt sh rf l) (hm : LineAt sh rf m) (hlm : l + 4 ≤ m ∨ m + 4 ≤ l) : Cv g mX3_copy [aR l, aR m] (sh, rf, v) (putL (fun v' => SameL v m v' l ∧ ∀ c, c < l ∨ l + 4 ≤ c → v' c = v c) sh rf) := by
  obtain ⟨a1, a2, a3, a4, a5, a6, a7⟩ := hl
  obtain ⟨b1, b2, b3, b4, b5, b6, b7⟩ := hm
  refine x_entry (ls := [some (aR l), some (aR m)]) rfl rfl (Nat.le_of_ble_eq_true rfl) ?_
  refine x_al_n (q := 1) dX3_copy_0 rfl rfl ?_
  refine x_getR (q := 4) (o := some (m + 1)) dX3_copy_1 rfl fX3_9 (by assumption) rfl (by assumption) ?_
  refine x_ic (q := 5) dX3_copy_4 rfl rfl ?_
  refine x_al_n (q := 6) dX3_copy_5 rfl rfl ?_
  refine x_getR (q := 9) (o := some (l + 1)) dX3_copy_6 rfl fX3_9 (by assumption) rfl (by assumption) ?_
  refine x_ic (q := 10) dX3_copy_9 rfl rfl ?_
  refine x_bi (q := 12) dX3_copy_10 rfl rfl ?_
  refine x_copy (q := 15) dX3_copy_12 rfl q445 q329 q328 q77 (by assumption) (by assumption) (by decide) (by decide) (by decide) (Nat.le_of_ble_eq_true rfl) (Nat.le_of_ble_eq_true rfl) (Nat.le_of_ble_eq_true rfl) ?_
  refine x_al_n (q := 16) dX3_copy_15 rfl rfl ?_
  refine x_getR (q := 19) (o := some (m + 2)) dX3_copy_16 rfl fX3_15 (by assumption) rfl (by assumption) ?_
  refine x_ic (q := 20) dX3_copy_19 rfl rfl ?_
  refine x_al_n (q := 21) dX3_copy_20 rfl rfl ?_
  refine x_getR (q := 24) (o := some (l + 2)) dX3_copy_21 rfl fX3_15 (by assumption) rfl (by assumption) ?_
  refine x_ic (q := 25) dX3_copy_24 rfl rfl ?_
  refine x_bi (q := 27) dX3_copy_25 rfl rfl ?_
  refine x_copy (q := 30) dX3_copy_27 rfl q445 q329 q328 q77 (by assumption) (by assumption) (by decide) (by decide) (by decide) (Nat.le_of_ble_eq_true rfl) (Nat.le_of_ble_eq_true rfl) (Nat.le_of_ble_eq_true rfl) ?_
  refine x_al_n (q := 31) dX3_copy_30 rfl rfl ?_
  refine x_getR (q := 34) (o := some (m + 3)) dX3_copy_31 rfl fX3_18 (by assumption) rfl (by assumption) ?_
  refine x_ic (q := 35) dX3_copy_34 rfl rfl ?_
  refine x_al_n (q := 36) dX3_copy_35 rfl rfl ?_
  refine x_getR (q := 39) (o := some (l + 3)) dX3_copy_36 rfl fX3_18 (by assumption) rfl (by assumption) ?_
  refine x_ic (q := 40) dX3_copy_39 rfl rfl ?_
  refine x_bi (q := 42) dX3_copy_40 rfl rfl ?_
  refine x_copy (q := 45) dX3_copy_42 rfl q445 q329 q328 q77 (by assumption) (by assumption) (by decide) (by decide) (by decide) (Nat.le_of_ble_eq_true rfl) (Nat.le_of_ble_eq_true rfl) (Nat.le_of_ble_eq_true rfl) ?_
  refine x_al_n (q := 46) dX3_copy_45 rfl rfl ?_
  refine x_al_n (q := 47) dX3_copy_46 rfl rfl ?_
  refine x_getIe (q := 50) (z := v m 3) dX3_copy_47 rfl fX3_21 (by assumption) rfl (by simp only [upR]; repeat rw [if_neg (by omega)]) ?_
  refine x_putI (q := 53) dX3_copy_50 rfl fX3_21 (by assumption) (.inl rfl) rfl ?_
  refine x_al_n (q := 54) dX3_copy_53 rfl rfl ?_
  refine x_al_n (q := 55) dX3_copy_54 rfl rfl ?_
  refine x_getIe (q := 58) (z := v m 4) dX3_copy_55 rfl fX3_25 (by assumption) rfl (by simp only [upR, up]; repeat rw [if_neg (by omega)]) ?_
  refine x_putI (q := 61) dX3_copy_58 rfl fX3_25 (by assumption) (.inl rfl) rfl ?_
  exact x_vret dX3_copy_61 rfl rfl (Nat.zero_le _) (by refine ⟨rfl, _, rfl, ⟨?_, ?_, fun j hj => ⟨?_, ?_, ?_⟩⟩, fun c hc => ?_⟩ <;> simp only [upR, up] <;> first | (simp; done) | (have z1 : m ≠ l := (by omega); have z2 : m + 1 ≠ l := (by omega); have z3 : m + 2 ≠ l := (by omega); have z4 : m + 3 ≠ l := (by omega); have z5 : m + 1 ≠ l + 2 := (by omega); have z6 : m + 2 ≠ l + 1 := (by omega); have z7 : m + 3 ≠ l + 1 := (by omega); have z8 : m + 3 ≠ l + 2 := (by omega); have z9 : m + 1 ≠ l + 3 := (by omega); have z10 : m + 2 ≠ l + 3 := (by omega); simp [z1, z2, z3, z4, z5, z6, z7, z8, z9, z10, hj]; done) | (have y1 : c ≠ l := (by omega); have y2 : c ≠ l + 1 := (by omega); have y3 : c ≠ l + 2 := (by omega); have y4 : c ≠ l + 3 := (by omega); simp [y1, y2, y3, y4]))
set_option maxHeartbeats 4000000 in
set_option maxRecDepth 100000 in
theorem c_heldCopy {e d : Nat} (he : HeldAt sh rf e) (hd : HeldAt sh rf d) (hed : e + 6 ≤ d ∨ d + 6 ≤ e) : Cv g mX2_copy [aR e, aR d] (sh, rf, v) (putL (fun v' => SameH v d v' e ∧ ∀ c, c < e + 1 ∨ e + 6 ≤ c → v' c = v c) sh rf) := by
  obtain ⟨a1, a2, a3, a4, a5⟩ := he
  obtain ⟨b1, b2, b3, b4, b5⟩ := hd
  have a6 := a5.1
  refine x_entry (ls := [some (aR e), some (aR d)]) rfl rfl (Nat.le_of_ble_eq_true rfl) ?_
  refine x_al_n (q := 1) dX2_copy_0 rfl rfl ?_
  refine x_getR (q := 4) (o := some (e + 1)) dX2_copy_1 rfl fX2_10 (by assumption) rfl (by assumption) ?_
  refine x_al_n (q := 5) dX2_copy_4 rfl rfl ?_
  refine x_getR (q := 8) (o := some (d + 1)) dX2_copy_5 rfl fX2_10 (by assumption) rfl (by assumption) ?_
  refine x_V (q := 11) (ci := 1) dX2_copy_8 rfl kX2_copy_23 (c_banCopy (c := e + 1) (d := d + 1) a2 b2 (by omega)) rfl rfl (by assumption) (by decide) rfl (Nat.le_of_ble_eq_true rfl) ⟨rfl, rfl⟩ ⟨Nat.zero_le _, Nat.zero_le _⟩ (fun r1 h1 hp => ?_)
  obtain ⟨rfl, rfl⟩ := hp
  refine x_al_n (q := 12) dX2_copy_11 rfl rfl ?_
  refine x_getR (q := 15) (o := some (e + 2)) dX2_copy_12 rfl fX2_19 (by assumption) rfl (by assumption) ?_
  refine x_al_n (q := 16) dX2_copy_15 rfl rfl ?_
  refine x_getR (q := 19) (o := some (d + 2)) dX2_copy_16 rfl fX2_19 (by assumption) rfl (by assumption) ?_
  refine x_V (q := 22) (ci := 3) dX2_copy_19 rfl kX2_copy_27 (c_lineCopy (l := e + 2) (m := d + 2) a5 b5 (by omega)) rfl rfl (by assumption) (by decide) rfl (Nat.le_of_ble_eq_true rfl) ⟨rfl, rfl⟩ ⟨Nat.zero_le _, Nat.zero_le _⟩ (fun r1 h1 hp => ?_)
  obtain ⟨rfl, v2, rfl, hs, hk⟩ := hp
  refine x_vret dX2_copy_22 rfl rfl (Nat.zero_le _) ?_
  refine ⟨rfl, v2, rfl, ⟨?_, ?_⟩, fun c hc => ?_⟩
  · have : banOf v2 (e + 1) = banOf (setBan v (e + 1) (banOf v (d + 1))) (e + 1) := banOf_cong (hk (e + 1) (by omega))
    rw [this, setBan_b]
  · obtain ⟨s1, s2, s3⟩ := hs
    have n0 : setBan v (e + 1) (banOf v (d + 1)) (d + 2) = v (d + 2) := setBan_n (by omega)
    have n1 : setBan v (e + 1) (banOf v (d + 1)) (d + 2 + 1) = v (d + 2 + 1) := setBan_n (by omega)
    have n2 : setBan v (e + 1) (banOf v (d + 1)) (d + 2 + 2) = v (d + 2 + 2) := setBan_n (by omega)
    have n3 : setBan v (e + 1) (banOf v (d + 1)) (d + 2 + 3) = v (d + 2 + 3) := setBan_n (by omega)
    rw [n0] at s1 s2
    rw [n1, n2, n3] at s3
    exact ⟨s1, s2, s3⟩
  · rw [hk c (by omega)]
    exact setBan_n (by omega)
end LIN

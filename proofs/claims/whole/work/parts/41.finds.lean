/-! ===== the Model: arcs, good states, tags, found anew ===== -/
theorem cnt_pad {f : Nat → Bool} {m : Nat} (h : ∀ w, m ≤ w → f w = false) : ∀ {k}, m ≤ k → cnt f k = cnt f m := by
  intro k hk
  obtain ⟨d, rfl⟩ : ∃ d, k = m + d := ⟨k - m, by omega⟩
  clear hk
  induction d with
  | zero => rfl
  | succ d ih => rw [show m + (d + 1) = (m + d) + 1 by omega, cnt_f (h _ (by omega)), ih]
theorem inS_9 (f : Nat → Bool) (n : Nat) : inS f n (-9) = false := by unfold inS; rw [decide_eq_false (by omega)]; rfl
theorem inS_t {f : Nat → Bool} {n : Nat} {x : Int} (h0 : 0 ≤ x) (h1 : x < n) (h : mk f n / 2 ^ x.toNat % 2 = 1) : inS f n x = true := by
  rw [mk_bit] at h
  unfold inS
  rw [decide_eq_true ⟨h0, h1⟩]
  split at h
  · rename_i hc; rw [hc.2]; rfl
  · cases h
theorem inS_f {f : Nat → Bool} {n : Nat} {x : Int} (h0 : 0 ≤ x) (h1 : x < n) (h : ¬ mk f n / 2 ^ x.toNat % 2 = 1) : inS f n x = false := by
  rw [mk_bit] at h
  unfold inS
  rw [decide_eq_true ⟨h0, h1⟩]
  split at h
  · exact absurd rfl h
  · rename_i hc
    cases hf : f x.toNat with
    | false => rfl
    | true => exact absurd ⟨by omega, hf⟩ hc
def FND (c : Cfg) (v u : Nat → Nat → Int) : Prop := RowL u c ∧ RowG u c ∧ u 70 11 = mk (Gd c) (nS c) ∧ u 70 12 = Bg c ∧ (∀ d, d ≠ 70 → d ≠ 77 → d ≠ 78 → u d = v d) ∧ ∀ k, k ≠ 11 → k ≠ 12 → u 70 k = v 70 k
section FIN
variable {g : GL} {sh : List (Nat × Nat)} {rf : Nat → Nat → Option Nat} {v : Nat → Nat → Int} {c : Cfg}

set_option maxHeartbeats 4000000 in
set_option maxRecDepth 100000 in
theorem m_layArcs (hs : ExtM sh) (hr : RokM rf) (hm : CM v c) (hv : Vld c) : Cv g mX7_layArcs [aR 70] (sh, rf, v) (putL (fun u => RowL u c ∧ ∀ d, d ≠ 77 → u d = v d) sh rf) := by
  have hS := nS_rng hv
  have hd := nd_rng hv
  have hq := pw16 hv.2.2.2.1 hv.2.2.2.2
  obtain ⟨hvB, hp1, hp2, hq1, hq2⟩ := id hv
  obtain ⟨m, hmq⟩ : ∃ m : Nat, (m : Int) = 2 ^ c.2.2.2.2.toNat := ⟨2 ^ c.2.2.2.2.toNat, by simp⟩
  have hnd : nd c = 2 ^ c.2.2.2.1.toNat := rfl
  refine x_entry (ls := [some (aR 70), none, none, none, none]) rfl rfl (Nat.le_of_ble_eq_true rfl) ?_
  refine x_ic (q := 1) dX7_layArcs_0 rfl rfl ?_
  refine x_is1 (q := 2) dX7_layArcs_1 rfl rfl ?_
  refine x_up (S := fun s => ∀ (u : Nat → Nat → Int) (o2 o3 o4 : Option AV), ((∀ s1 w1 : Nat, s1 < nS c → (w1 : Int) < 2 ^ c.2.2.2.2.toNat → (s1 < s ∨ (s1 = s ∧ w1 < 0)) → u 77 (16 * s1 + w1) = eT c s1 w1) ∧ ∀ d, d ≠ 77 → u d = v d) → Wv g mX7_layArcs 0 0 2 [some (aR 70), some (aI (s : Int)), o2, o3, o4] [] (sh, rf, u) (putL (fun u => RowL u c ∧ ∀ d, d ≠ 77 → u d = v d) sh rf)) (nS c) ?_ ?_ 0 (Nat.zero_le _) v none none none ⟨fun s1 w1 _ _ h => by omega, fun _ _ => rfl⟩
  · intro u o2 o3 o4 ⟨hu1, hu2⟩
    have hmu : CM u c := hm.cong (hu2 71 (by decide))
    refine x_il_n (q := 3) dX7_layArcs_2 rfl rfl ?_
    refine x_al_n (q := 4) dX7_layArcs_3 rfl rfl ?_
    refine x_VI (q := 7) (ci := 7) dX7_layArcs_4 rfl kX7_layArcs_82 (m_states hs hr hmu hv) rfl rfl (hs _ _ rfl) (by decide) rfl (Nat.le_of_ble_eq_true rfl) ⟨rfl, rfl⟩ ⟨Nat.zero_le _, Nat.zero_le _⟩ ?_
    refine x_ic_ge (t := 85) (q := 10) dX7_layArcs_7 rfl rfl (fun c_7 => ?_) (fun c_7 => ?_)
    · skip
      exact x_vret dX7_layArcs_85 rfl rfl (Nat.zero_le _) (by exact ⟨rfl, u, rfl, fun s1 w1 a b => hu1 s1 w1 a b (.inl a), hu2⟩)
    · skip
      exact absurd (Int.le_refl _) c_7
  · intro s hsn ihs u o2 o3 o4 ⟨hu1, hu2⟩
    have hmu : CM u c := hm.cong (hu2 71 (by decide))
    refine x_il_n (q := 3) dX7_layArcs_2 rfl rfl ?_
    refine x_al_n (q := 4) dX7_layArcs_3 rfl rfl ?_
    refine x_VI (q := 7) (ci := 7) dX7_layArcs_4 rfl kX7_layArcs_82 (m_states hs hr hmu hv) rfl rfl (hs _ _ rfl) (by decide) rfl (Nat.le_of_ble_eq_true rfl) ⟨rfl, rfl⟩ ⟨Nat.zero_le _, Nat.zero_le _⟩ ?_
    refine x_ic_ge (t := 85) (q := 10) dX7_layArcs_7 rfl rfl (fun c_7 => ?_) (fun c_7 => ?_)
    · skip
      exact absurd c_7 (by omega)
    · skip
      refine x_ic (q := 11) dX7_layArcs_10 rfl rfl ?_
      refine x_is2 (q := 12) dX7_layArcs_11 rfl rfl ?_
      refine x_up (S := fun w => ∀ (u : Nat → Nat → Int) (o3 o4 : Option AV), ((∀ s1 w1 : Nat, s1 < nS c → (w1 : Int) < 2 ^ c.2.2.2.2.toNat → (s1 < s ∨ (s1 = s ∧ w1 < w)) → u 77 (16 * s1 + w1) = eT c s1 w1) ∧ ∀ d, d ≠ 77 → u d = v d) → Wv g mX7_layArcs 0 0 12 [some (aR 70), some (aI (s : Int)), some (aI (w : Int)), o3, o4] [] (sh, rf, u) (putL (fun u => RowL u c ∧ ∀ d, d ≠ 77 → u d = v d) sh rf)) m ?_ ?_ 0 (Nat.zero_le _) u o3 o4 ⟨hu1, hu2⟩
      · intro u o3 o4 ⟨hu1, hu2⟩
        have hmu : CM u c := hm.cong (hu2 71 (by decide))
        refine x_il_n (q := 13) dX7_layArcs_12 rfl rfl ?_
        refine x_al_n (q := 14) dX7_layArcs_13 rfl rfl ?_
        refine x_VI (q := 17) (ci := 7) dX7_layArcs_14 rfl kX7_layArcs_78 (m_words hs hr hmu hv) rfl rfl (hs _ _ rfl) (by decide) rfl (Nat.le_of_ble_eq_true rfl) ⟨rfl, rfl⟩ ⟨Nat.zero_le _, Nat.zero_le _⟩ ?_
        rw [← hmq]
        refine x_ic_ge (t := 79) (q := 20) dX7_layArcs_17 rfl rfl (fun c_17 => ?_) (fun c_17 => ?_)
        · skip
          refine x_ii1 (q := 82) dX7_layArcs_79 rfl rfl ⟨by omega, by omega⟩ ?_
          refine x_goto (t := 2) dX7_layArcs_82 rfl ?_
          exact ihs u _ _ _ ⟨fun s1 w1 a b h => hu1 s1 w1 a b (by omega), hu2⟩
        · skip
          exact absurd (Int.le_refl _) c_17
      · intro w hwm ih u o3 o4 ⟨hu1, hu2⟩
        have hmu : CM u c := hm.cong (hu2 71 (by decide))
        have hend : ∀ o4 : Option AV, Wv g mX7_layArcs 0 0 61 [some (aR 70), some (aI (s : Int)), some (aI (w : Int)), some (aI (eT c s w)), o4] [] (sh, rf, u) (putL (fun u => RowL u c ∧ ∀ d, d ≠ 77 → u d = v d) sh rf) := by
          intro o4
          refine x_al_n (q := 62) dX7_layArcs_61 rfl rfl ?_
          refine x_getR (q := 65) (o := some (77)) dX7_layArcs_62 rfl fX7_29 (hs _ _ rfl) rfl (hr _ _ rfl) ?_
          refine x_bi (q := 67) dX7_layArcs_65 rfl rfl ?_
          refine x_il_n (q := 68) dX7_layArcs_67 rfl rfl ?_
          refine x_mul (q := 69) dX7_layArcs_68 rfl ⟨by omega, by omega⟩ ?_
          refine x_il_n (q := 70) dX7_layArcs_69 rfl rfl ?_
          refine x_add (q := 71) dX7_layArcs_70 rfl ⟨by omega, by omega⟩ ?_
          refine x_il_n (q := 72) dX7_layArcs_71 rfl rfl ?_
          refine x_iast (q := 73) dX7_layArcs_72 rfl (hs _ _ rfl) (by omega) (by omega) ?_
          refine x_ii2 (q := 76) dX7_layArcs_73 rfl rfl ⟨by omega, by omega⟩ ?_
          refine x_goto (t := 12) dX7_layArcs_76 rfl ?_
          refine ih _ _ _ ⟨fun s1 w1 a b h => ?_, fun d hd => by rw [up_n _ _ _ hd]; exact hu2 d hd⟩
          rw [up_at]
          by_cases he : s1 = s ∧ w1 = w
          · obtain ⟨rfl, rfl⟩ := he
            rw [if_pos (by omega)]
          · rw [if_neg (by omega)]
            exact hu1 s1 w1 a b (by omega)
        have hLO : eT c s w = LO c.1 c.2.1 c.2.2.1 (w : Int) c.2.2.2.2.toNat s := eT_in (by omega) (by omega)
        have key : ∀ (k : Nat) (x : Int), k ≤ 4 → (x = -9 ∨ (0 ≤ x ∧ x < (nS c : Int))) → LO c.1 c.2.1 c.2.2.1 (w : Int) k x = eT c s w → Wv g mX7_layArcs 0 0 32 [some (aR 70), some (aI (s : Int)), some (aI (w : Int)), some (aI x), some (aI ((k : Int) - 1))] [] (sh, rf, u) (putL (fun u => RowL u c ∧ ∀ d, d ≠ 77 → u d = v d) sh rf) := by
          intro k
          induction k with
          | zero =>
            intro x hk hx he
            have he : x = eT c s w := he
            subst he
            refine x_il (q := 34) dX7_layArcs_32 rfl rfl ?_
            refine x_if_lt (t := 61) (q := 37) dX7_layArcs_34 rfl rfl (fun c_34 => ?_) (fun c_34 => ?_)
            · skip
              exact hend _
            · skip
              exact absurd (by decide) c_34
          | succ k ihk =>
            intro x hk hx he
            refine x_il (q := 34) dX7_layArcs_32 rfl rfl ?_
            refine x_if_lt (t := 61) (q := 37) dX7_layArcs_34 rfl rfl (fun c_34 => ?_) (fun c_34 => ?_)
            · skip
              exact absurd c_34 (by omega)
            · skip
              refine x_il_n (q := 38) dX7_layArcs_37 rfl rfl ?_
              refine x_bi (q := 40) dX7_layArcs_38 rfl rfl ?_
              refine x_ic_eq (t := 61) (q := 43) dX7_layArcs_40 rfl rfl (fun c_40 => ?_) (fun c_40 => ?_)
              · skip
                subst c_40
                rw [LO_9] at he
                rw [he]
                exact hend _
              · skip
                refine x_al_n (q := 44) dX7_layArcs_43 rfl rfl ?_
                refine x_il_n (q := 45) dX7_layArcs_44 rfl rfl ?_
                refine x_il_n (q := 46) dX7_layArcs_45 rfl rfl ?_
                refine x_il (q := 48) dX7_layArcs_46 rfl rfl ?_
                refine x_shr (q := 49) dX7_layArcs_48 rfl (by omega) (by omega) (by omega) ?_
                rw [show (((k + 1 : Nat) : Int) - 1).toNat = k by omega]
                refine x_ic (q := 50) dX7_layArcs_49 rfl rfl ?_
                refine x_and1 (q := 51) dX7_layArcs_50 rfl (Int.ediv_nonneg (by omega) (Int.le_of_lt (pw_pos k))) ?_
                refine x_VI (q := 54) (ci := 7) dX7_layArcs_51 rfl kX7_layArcs_85 (m_stepOf hs hr hmu hv (by omega) (by omega) (by omega)) rfl rfl (hs _ _ rfl) (by decide) rfl (Nat.le_of_ble_eq_true rfl) ⟨rfl, rfl⟩ ⟨Nat.zero_le _, Nat.zero_le _⟩ ?_
                have hr0 := stp_rng (b := (w : Int) / 2 ^ k % 2) hvB (show 0 ≤ x by omega) (by omega)
                rw [← hS.2.2] at hr0
                have he2 : LO c.1 c.2.1 c.2.2.1 (w : Int) k (stp c.1 c.2.1 c.2.2.1 x ((w : Int) / 2 ^ k % 2)) = eT c s w := by rw [← he]; show _ = (if x = -9 then -9 else _); rw [if_neg c_40]
                refine x_is3 (q := 55) dX7_layArcs_54 rfl rfl ?_
                refine x_ii4 (q := 58) dX7_layArcs_55 rfl rfl ⟨by omega, by omega⟩ ?_
                refine x_goto (t := 32) dX7_layArcs_58 rfl ?_
                have h9 := ihk _ (by omega) hr0 he2
                rw [show ((k + 1 : Nat) : Int) - 1 + -1 = (k : Int) - 1 by omega]
                exact h9
        refine x_il_n (q := 13) dX7_layArcs_12 rfl rfl ?_
        refine x_al_n (q := 14) dX7_layArcs_13 rfl rfl ?_
        refine x_VI (q := 17) (ci := 7) dX7_layArcs_14 rfl kX7_layArcs_78 (m_words hs hr hmu hv) rfl rfl (hs _ _ rfl) (by decide) rfl (Nat.le_of_ble_eq_true rfl) ⟨rfl, rfl⟩ ⟨Nat.zero_le _, Nat.zero_le _⟩ ?_
        rw [← hmq]
        refine x_ic_ge (t := 79) (q := 20) dX7_layArcs_17 rfl rfl (fun c_17 => ?_) (fun c_17 => ?_)
        · skip
          exact absurd c_17 (by omega)
        · skip
          refine x_il_n (q := 21) dX7_layArcs_20 rfl rfl ?_
          refine x_is3 (q := 22) dX7_layArcs_21 rfl rfl ?_
          refine x_al_n (q := 23) dX7_layArcs_22 rfl rfl ?_
          refine x_getR (q := 26) (o := some (71)) dX7_layArcs_23 rfl fX7_7 (hs _ _ rfl) rfl (hr _ _ rfl) ?_
          refine x_ic (q := 27) dX7_layArcs_26 rfl rfl ?_
          refine x_ialde (q := 28) (z := c.2.2.2.2) dX7_layArcs_27 rfl (hs _ _ rfl) (by omega) (by omega) (hmu.2.2.2.2) ?_
          refine x_ic (q := 29) dX7_layArcs_28 rfl rfl ?_
          refine x_sub (q := 30) dX7_layArcs_29 rfl ⟨by omega, by omega⟩ ?_
          refine x_is4 (q := 32) dX7_layArcs_30 rfl rfl ?_
          have h9 := key c.2.2.2.2.toNat (s : Int) (by omega) (.inr ⟨by omega, by omega⟩) hLO.symm
          rw [Int.toNat_of_nonneg (by omega)] at h9
          exact h9
set_option maxHeartbeats 4000000 in
set_option maxRecDepth 100000 in
theorem m_goodArcs (hs : ExtM sh) (hr : RokM rf) (hm : CM v c) (hv : Vld c) {f : Nat → Bool} {s : Nat} (hR : RowL v c) (hg : v 70 11 = mk f (nS c)) (hsn : s < nS c) : Cv g mX7_goodArcs [aR 70, aI (s : Int)] (sh, rf, v) (retI (cnt (fun w => inS f (nS c) (eT c s w)) 16) (sh, rf, v)) := by
  have hS := nS_rng hv
  have hd := nd_rng hv
  have hq := pw16 hv.2.2.2.1 hv.2.2.2.2
  obtain ⟨hvB, hp1, hp2, hq1, hq2⟩ := id hv
  obtain ⟨m, hmq⟩ : ∃ m : Nat, (m : Int) = 2 ^ c.2.2.2.2.toNat := ⟨2 ^ c.2.2.2.2.toNat, by simp⟩
  have hnd : nd c = 2 ^ c.2.2.2.1.toNat := rfl
  have hmk := mk_rng f (nS c)
  have hpad : cnt (fun w => inS f (nS c) (eT c s w)) 16 = cnt (fun w => inS f (nS c) (eT c s w)) m := cnt_pad (fun w hw => by show inS f (nS c) (eT c s w) = false; rw [eT_o2 (by omega)]; exact inS_9 _ _) (by omega)
  rw [hpad]
  refine x_entry (ls := [some (aR 70), some (aI (s : Int)), none, none, none]) rfl rfl (Nat.le_of_ble_eq_true rfl) ?_
  refine x_ic (q := 1) dX7_goodArcs_0 rfl rfl ?_
  refine x_is2 (q := 2) dX7_goodArcs_1 rfl rfl ?_
  refine x_ic (q := 3) dX7_goodArcs_2 rfl rfl ?_
  refine x_is3 (q := 4) dX7_goodArcs_3 rfl rfl ?_
  refine x_up (S := fun w => ∀ o4 : Option AV, Wv g mX7_goodArcs 0 0 4 [some (aR 70), some (aI (s : Int)), some (aI (cnt (fun w => inS f (nS c) (eT c s w)) w)), some (aI (w : Int)), o4] [] (sh, rf, v) (retI (cnt (fun w => inS f (nS c) (eT c s w)) m) (sh, rf, v))) m ?_ ?_ 0 (Nat.zero_le _) none
  · intro o4
    refine x_il_n (q := 5) dX7_goodArcs_4 rfl rfl ?_
    refine x_al_n (q := 6) dX7_goodArcs_5 rfl rfl ?_
    refine x_VI (q := 9) (ci := 7) dX7_goodArcs_6 rfl kX7_goodArcs_78 (m_words hs hr hm hv) rfl rfl (hs _ _ rfl) (by decide) rfl (Nat.le_of_ble_eq_true rfl) ⟨rfl, rfl⟩ ⟨Nat.zero_le _, Nat.zero_le _⟩ ?_
    rw [← hmq]
    refine x_ic_ge (t := 54) (q := 12) dX7_goodArcs_9 rfl rfl (fun c_9 => ?_) (fun c_9 => ?_)
    · skip
      refine x_il_n (q := 55) dX7_goodArcs_54 rfl rfl ?_
      exact x_iret dX7_goodArcs_55 rfl rfl (Nat.zero_le _) (retI_mk (by rfl))
    · skip
      exact absurd (Int.le_refl _) c_9
  · intro w hwm ih o4
    have hto := eT_rng hv s w
    have hcr := cnt_rng (fun w => inS f (nS c) (eT c s w)) w
    refine x_il_n (q := 5) dX7_goodArcs_4 rfl rfl ?_
    refine x_al_n (q := 6) dX7_goodArcs_5 rfl rfl ?_
    refine x_VI (q := 9) (ci := 7) dX7_goodArcs_6 rfl kX7_goodArcs_78 (m_words hs hr hm hv) rfl rfl (hs _ _ rfl) (by decide) rfl (Nat.le_of_ble_eq_true rfl) ⟨rfl, rfl⟩ ⟨Nat.zero_le _, Nat.zero_le _⟩ ?_
    rw [← hmq]
    refine x_ic_ge (t := 54) (q := 12) dX7_goodArcs_9 rfl rfl (fun c_9 => ?_) (fun c_9 => ?_)
    · skip
      exact absurd c_9 (by omega)
    · skip
      refine x_al_n (q := 13) dX7_goodArcs_12 rfl rfl ?_
      refine x_il_n (q := 14) dX7_goodArcs_13 rfl rfl ?_
      refine x_il_n (q := 15) dX7_goodArcs_14 rfl rfl ?_
      refine x_VI (q := 18) (ci := 7) dX7_goodArcs_15 rfl kX7_goodArcs_89 (m_lead hs hr hm hv hR (by omega) hsn) rfl rfl (hs _ _ rfl) (by decide) rfl (Nat.le_of_ble_eq_true rfl) ⟨rfl, rfl⟩ ⟨Nat.zero_le _, Nat.zero_le _⟩ ?_
      rw [Ex_n (by omega) (by omega)]
      refine x_is4 (q := 20) dX7_goodArcs_18 rfl rfl ?_
      refine x_il_n (q := 21) dX7_goodArcs_20 rfl rfl ?_
      refine x_il (q := 23) dX7_goodArcs_21 rfl rfl ?_
      refine x_bi (q := 25) dX7_goodArcs_23 rfl rfl ?_
      refine x_ic_eq (t := 45) (q := 28) dX7_goodArcs_25 rfl rfl (fun c_25 => ?_) (fun c_25 => ?_)
      · skip
        rw [cnt_f (by show inS f (nS c) (eT c s w) = false; rw [c_25]; exact inS_9 _ _)] at ih
        refine x_ic (q := 46) dX7_goodArcs_45 rfl rfl ?_
        refine x_add (q := 47) dX7_goodArcs_46 rfl ⟨by omega, by omega⟩ ?_
        refine x_is2 (q := 48) dX7_goodArcs_47 rfl rfl ?_
        refine x_ii3 (q := 51) dX7_goodArcs_48 rfl rfl ⟨by omega, by omega⟩ ?_
        refine x_goto (t := 4) dX7_goodArcs_51 rfl ?_
        first | exact ih _ | (rw [Int.add_zero]; exact ih _)
      · skip
        refine x_al_n (q := 29) dX7_goodArcs_28 rfl rfl ?_
        refine x_getIe (q := 32) (z := mk f (nS c)) dX7_goodArcs_29 rfl fX7_92 (hs _ _ rfl) rfl (hg) ?_
        refine x_il (q := 34) dX7_goodArcs_32 rfl rfl ?_
        refine x_shr (q := 35) dX7_goodArcs_34 rfl (by omega) (by omega) (by omega) ?_
        refine x_ic (q := 36) dX7_goodArcs_35 rfl rfl ?_
        refine x_and1 (q := 37) dX7_goodArcs_36 rfl (by first | exact nn_dv (by omega) | omega) ?_
        refine x_ic (q := 38) dX7_goodArcs_37 rfl rfl ?_
        refine x_ic_ne (t := 45) (q := 41) dX7_goodArcs_38 rfl rfl (fun c_38 => ?_) (fun c_38 => ?_)
        · skip
          rw [cnt_f (show inS f (nS c) (eT c s w) = false from inS_f (by omega) (by omega) c_38)] at ih
          refine x_ic (q := 46) dX7_goodArcs_45 rfl rfl ?_
          refine x_add (q := 47) dX7_goodArcs_46 rfl ⟨by omega, by omega⟩ ?_
          refine x_is2 (q := 48) dX7_goodArcs_47 rfl rfl ?_
          refine x_ii3 (q := 51) dX7_goodArcs_48 rfl rfl ⟨by omega, by omega⟩ ?_
          refine x_goto (t := 4) dX7_goodArcs_51 rfl ?_
          first | exact ih _ | (rw [Int.add_zero]; exact ih _)
        · skip
          rw [cnt_t (show inS f (nS c) (eT c s w) = true from inS_t (by omega) (by omega) c_38)] at ih
          refine x_ic (q := 42) dX7_goodArcs_41 rfl rfl ?_
          refine x_goto (t := 46) dX7_goodArcs_42 rfl ?_
          refine x_add (q := 47) dX7_goodArcs_46 rfl ⟨by omega, by omega⟩ ?_
          refine x_is2 (q := 48) dX7_goodArcs_47 rfl rfl ?_
          refine x_ii3 (q := 51) dX7_goodArcs_48 rfl rfl ⟨by omega, by omega⟩ ?_
          refine x_goto (t := 4) dX7_goodArcs_51 rfl ?_
          first | exact ih _ | (rw [Int.add_zero]; exact ih _)
set_option maxHeartbeats 4000000 in
set_option maxRecDepth 100000 in
theorem m_finds (hs : ExtM sh) (hr : RokM rf) (hm : CM v c) (hv : Vld c) : Cv g mX7_finds [aR 70] (sh, rf, v) (putL (fun u => FND c v u) sh rf) := by
  have hS := nS_rng hv
  have hd := nd_rng hv
  have hq := pw16 hv.2.2.2.1 hv.2.2.2.2
  obtain ⟨hvB, hp1, hp2, hq1, hq2⟩ := id hv
  obtain ⟨m, hmq⟩ : ∃ m : Nat, (m : Int) = 2 ^ c.2.2.2.2.toNat := ⟨2 ^ c.2.2.2.2.toNat, by simp⟩
  have hnd : nd c = 2 ^ c.2.2.2.1.toNat := rfl
  refine x_entry (ls := [some (aR 70), none, none, none, none, none, none]) rfl rfl (Nat.le_of_ble_eq_true rfl) ?_
  have tail : ∀ (u : Nat → Nat → Int), RowL u c → (∀ d, d ≠ 77 → u d = v d) → ∀ (j : Nat) (y : Nat → Nat → Int) (x1 : Int) (o3 o4 o5 o6 : Option AV), j ≤ nS c → y 70 12 = fi (Gd c) j (nS c - j) → (y 70 11 = mk (Gd c) (nS c) ∧ (∀ d, d ≠ 70 → d ≠ 78 → y d = u d) ∧ (∀ k, k ≠ 11 → k ≠ 12 → y 70 k = u 70 k) ∧ ∀ s1 w1 : Nat, s1 < nS c → (w1 : Int) < 2 ^ c.2.2.2.2.toNat → (j ≤ s1 ∨ (s1 + 1 = j ∧ w1 < 0)) → y 78 (16 * s1 + w1) = tT c s1 w1) → Wv g mX7_finds 0 0 108 [some (aR 70), some (aI x1), some (aI ((j : Int) - 1)), o3, o4, o5, o6] [] (sh, rf, y) (putL (fun u => FND c v u) sh rf) := by
    intro u hu1 hu2 j
    induction j with
    | zero =>
      intro y x1 o3 o4 o5 o6 hj hyb ⟨hy1, hy2, hy3, hy4⟩
      refine x_il_n (q := 109) dX7_finds_108 rfl rfl ?_
      refine x_if_lt (t := 258) (q := 112) dX7_finds_109 rfl rfl (fun c_109 => ?_) (fun c_109 => ?_)
      · skip
        exact x_vret dX7_finds_258 rfl rfl (Nat.zero_le _) (by exact ⟨rfl, y, rfl, fun s1 w1 a b => by rw [hy2 77 (by decide) (by decide)]; exact hu1 s1 w1 a b, fun s1 w1 a b => hy4 s1 w1 a b (.inl (Nat.zero_le _)), hy1, hyb, fun d h1 h2 h3 => by rw [hy2 d h1 h3, hu2 d h2], fun k h1 h2 => by rw [hy3 k h1 h2, hu2 70 (by decide)]⟩)
      · skip
        exact absurd (by decide) c_109
    | succ s ihs =>
      intro y x1 o3 o4 o5 o6 hj hyb hY
      have hsn : s < nS c := by omega
      rw [show ((s + 1 : Nat) : Int) - 1 = (s : Int) by omega]
      refine x_il_n (q := 109) dX7_finds_108 rfl rfl ?_
      refine x_if_lt (t := 258) (q := 112) dX7_finds_109 rfl rfl (fun c_109 => ?_) (fun c_109 => ?_)
      · skip
        exact absurd c_109 (by omega)
      · skip
        refine x_ic (q := 113) dX7_finds_112 rfl rfl ?_
        refine x_is3 (q := 114) dX7_finds_113 rfl rfl ?_
        refine x_ic (q := 115) dX7_finds_114 rfl rfl ?_
        refine x_is4 (q := 117) dX7_finds_115 rfl rfl ?_
        refine x_up (S := fun w => ∀ (y : Nat → Nat → Int) (o5 o6 : Option AV), y 70 12 = fi (Gd c) (s + 1) (nS c - (s + 1)) → (y 70 11 = mk (Gd c) (nS c) ∧ (∀ d, d ≠ 70 → d ≠ 78 → y d = u d) ∧ (∀ k, k ≠ 11 → k ≠ 12 → y 70 k = u 70 k) ∧ ∀ s1 w1 : Nat, s1 < nS c → (w1 : Int) < 2 ^ c.2.2.2.2.toNat → ((s + 1) ≤ s1 ∨ (s1 + 1 = (s + 1) ∧ w1 < w)) → y 78 (16 * s1 + w1) = tT c s1 w1) → Wv g mX7_finds 0 0 117 [some (aR 70), some (aI x1), some (aI (s : Int)), some (aI (tcn (aG (eT c) (Gd c) (nS c) s) (nd c) w)), some (aI (w : Int)), o5, o6] [] (sh, rf, y) (putL (fun u => FND c v u) sh rf)) m ?_ ?_ 0 (Nat.zero_le _) y o5 o6 hyb hY
        · intro y o5 o6 hyb ⟨hy1, hy2, hy3, hy4⟩
          have hmy : CM y c := hm.cong (by rw [hy2 71 (by decide) (by decide), hu2 71 (by decide)])
          have hfs : inS (Gd c) (nS c) (s : Int) = Gd c s := inS_nat hsn
          have hmk := mk_rng (Gd c) (nS c)
          refine x_il (q := 119) dX7_finds_117 rfl rfl ?_
          refine x_al_n (q := 120) dX7_finds_119 rfl rfl ?_
          refine x_VI (q := 123) (ci := 7) dX7_finds_120 rfl kX7_finds_78 (m_words hs hr hmy hv) rfl rfl (hs _ _ rfl) (by decide) rfl (Nat.le_of_ble_eq_true rfl) ⟨rfl, rfl⟩ ⟨Nat.zero_le _, Nat.zero_le _⟩ ?_
          rw [← hmq]
          refine x_ic_ge (t := 228) (q := 126) dX7_finds_123 rfl rfl (fun c_123 => ?_) (fun c_123 => ?_)
          · skip
            refine x_al_n (q := 229) dX7_finds_228 rfl rfl ?_
            refine x_al_n (q := 230) dX7_finds_229 rfl rfl ?_
            refine x_getIe (q := 233) (z := mk (Gd c) (nS c)) dX7_finds_230 rfl fX7_92 (hs _ _ rfl) rfl (hy1) ?_
            refine x_il_n (q := 234) dX7_finds_233 rfl rfl ?_
            refine x_shr (q := 235) dX7_finds_234 rfl (by omega) (by omega) (by omega) ?_
            refine x_ic (q := 236) dX7_finds_235 rfl rfl ?_
            refine x_and1 (q := 237) dX7_finds_236 rfl (by first | exact nn_dv (by omega) | omega) ?_
            refine x_ic (q := 238) dX7_finds_237 rfl rfl ?_
            refine x_ic_ne (t := 245) (q := 241) dX7_finds_238 rfl rfl (fun c_238 => ?_) (fun c_238 => ?_)
            · skip
              have hb : fi (Gd c) (s + 1) (nS c - (s + 1)) = fi (Gd c) s (nS c - s) := by rw [show nS c - s = (nS c - (s + 1)) + 1 by omega, fi_f (by rw [← hfs]; exact inS_f (by omega) (by omega) c_238)]
              refine x_al_n (q := 246) dX7_finds_245 rfl rfl ?_
              refine x_getIe (q := 249) (z := fi (Gd c) (s + 1) (nS c - (s + 1))) dX7_finds_246 rfl fX7_59 (hs _ _ rfl) rfl (hyb) ?_
              refine x_putI (q := 252) dX7_finds_249 rfl fX7_59 (hs _ _ rfl) (.inl rfl) rfl ?_
              refine x_ii2 (q := 255) dX7_finds_252 rfl rfl ⟨by omega, by omega⟩ ?_
              refine x_goto (t := 108) dX7_finds_255 rfl ?_
              rw [show (s : Int) + -1 = (s : Int) - 1 by omega]
              refine ihs _ _ _ _ _ _ (by omega) (by rw [up_at, if_pos rfl]; exact hb) ⟨by rw [up_at, if_neg (by decide)]; exact hy1, fun d h1 h2 => by rw [up_n _ _ _ h1]; exact hy2 d h1 h2, fun k h1 h2 => by rw [up_at, if_neg h2]; exact hy3 k h1 h2, fun s1 w1 a b h => by rw [up_n _ _ _ (by decide)]; exact hy4 s1 w1 a b (by omega)⟩
            · skip
              have hb : (s : Int) = fi (Gd c) s (nS c - s) := by rw [show nS c - s = (nS c - (s + 1)) + 1 by omega, fi_t (by rw [← hfs]; exact inS_t (by omega) (by omega) c_238)]
              refine x_il_n (q := 242) dX7_finds_241 rfl rfl ?_
              refine x_goto (t := 249) dX7_finds_242 rfl ?_
              refine x_putI (q := 252) dX7_finds_249 rfl fX7_59 (hs _ _ rfl) (.inl rfl) rfl ?_
              refine x_ii2 (q := 255) dX7_finds_252 rfl rfl ⟨by omega, by omega⟩ ?_
              refine x_goto (t := 108) dX7_finds_255 rfl ?_
              rw [show (s : Int) + -1 = (s : Int) - 1 by omega]
              refine ihs _ _ _ _ _ _ (by omega) (by rw [up_at, if_pos rfl]; exact hb) ⟨by rw [up_at, if_neg (by decide)]; exact hy1, fun d h1 h2 => by rw [up_n _ _ _ h1]; exact hy2 d h1 h2, fun k h1 h2 => by rw [up_at, if_neg h2]; exact hy3 k h1 h2, fun s1 w1 a b h => by rw [up_n _ _ _ (by decide)]; exact hy4 s1 w1 a b (by omega)⟩
          · skip
            exact absurd (Int.le_refl _) c_123
        · intro w hwm ih y o5 o6 hyb ⟨hy1, hy2, hy3, hy4⟩
          have hmy : CM y c := hm.cong (by rw [hy2 71 (by decide) (by decide), hu2 71 (by decide)])
          have hRy : RowL y c := fun s1 w1 a b => by rw [hy2 77 (by decide) (by decide)]; exact hu1 s1 w1 a b
          have hto := eT_rng hv s w
          have htc := tcn_rng (aG (eT c) (Gd c) (nS c) s) (nd c) (by omega) w
          have hmk := mk_rng (Gd c) (nS c)
          refine x_il (q := 119) dX7_finds_117 rfl rfl ?_
          refine x_al_n (q := 120) dX7_finds_119 rfl rfl ?_
          refine x_VI (q := 123) (ci := 7) dX7_finds_120 rfl kX7_finds_78 (m_words hs hr hmy hv) rfl rfl (hs _ _ rfl) (by decide) rfl (Nat.le_of_ble_eq_true rfl) ⟨rfl, rfl⟩ ⟨Nat.zero_le _, Nat.zero_le _⟩ ?_
          rw [← hmq]
          refine x_ic_ge (t := 228) (q := 126) dX7_finds_123 rfl rfl (fun c_123 => ?_) (fun c_123 => ?_)
          · skip
            exact absurd c_123 (by omega)
          · skip
            refine x_al_n (q := 127) dX7_finds_126 rfl rfl ?_
            refine x_il_n (q := 128) dX7_finds_127 rfl rfl ?_
            refine x_il (q := 130) dX7_finds_128 rfl rfl ?_
            refine x_VI (q := 133) (ci := 7) dX7_finds_130 rfl kX7_finds_89 (m_lead hs hr hmy hv (s := s) hRy (by omega) hsn) rfl rfl (hs _ _ rfl) (by decide) rfl (Nat.le_of_ble_eq_true rfl) ⟨rfl, rfl⟩ ⟨Nat.zero_le _, Nat.zero_le _⟩ ?_
            rw [Ex_n (by omega) (by omega)]
            refine x_is5 (q := 135) dX7_finds_133 rfl rfl ?_
            refine x_al_n (q := 136) dX7_finds_135 rfl rfl ?_
            refine x_getIe (q := 139) (z := mk (Gd c) (nS c)) dX7_finds_136 rfl fX7_92 (hs _ _ rfl) rfl (hy1) ?_
            refine x_il_n (q := 140) dX7_finds_139 rfl rfl ?_
            refine x_shr (q := 141) dX7_finds_140 rfl (by omega) (by omega) (by omega) ?_
            refine x_ic (q := 142) dX7_finds_141 rfl rfl ?_
            refine x_and1 (q := 143) dX7_finds_142 rfl (by first | exact nn_dv (by omega) | omega) ?_
            refine x_ic (q := 144) dX7_finds_143 rfl rfl ?_
            refine x_ic_ne (t := 183) (q := 147) dX7_finds_144 rfl rfl (fun c_144 => ?_) (fun c_144 => ?_)
            · skip
              have hT : (aG (eT c) (Gd c) (nS c) s w && decide (tcn (aG (eT c) (Gd c) (nS c) s) (nd c) w < nd c)) = false := by unfold aG; rw [inS_f (x := (s : Int)) (by omega) (by omega) c_144]; rfl
              refine x_ic (q := 184) dX7_finds_183 rfl rfl ?_
              refine x_is6 (q := 186) dX7_finds_184 rfl rfl ?_
              refine x_al_n (q := 187) dX7_finds_186 rfl rfl ?_
              refine x_getR (q := 190) (o := some (78)) dX7_finds_187 rfl fX7_32 (hs _ _ rfl) rfl (hr _ _ rfl) ?_
              refine x_bi (q := 192) dX7_finds_190 rfl rfl ?_
              refine x_il_n (q := 193) dX7_finds_192 rfl rfl ?_
              refine x_mul (q := 194) dX7_finds_193 rfl ⟨by omega, by omega⟩ ?_
              refine x_il (q := 196) dX7_finds_194 rfl rfl ?_
              refine x_add (q := 197) dX7_finds_196 rfl ⟨by omega, by omega⟩ ?_
              refine x_il (q := 199) dX7_finds_197 rfl rfl ?_
              refine x_if_eq (t := 206) (q := 202) dX7_finds_199 rfl rfl (fun c_199 => ?_) (fun c_199 => ?_)
              · skip
                refine x_bi (q := 208) dX7_finds_206 rfl rfl ?_
                refine x_iast (q := 209) dX7_finds_208 rfl (hs _ _ rfl) (by omega) (by omega) ?_
                refine x_il_n (q := 210) dX7_finds_209 rfl rfl ?_
                refine x_il (q := 212) dX7_finds_210 rfl rfl ?_
                refine x_if_eq (t := 219) (q := 215) dX7_finds_212 rfl rfl (fun c_212 => ?_) (fun c_212 => ?_)
                · skip
                  refine x_ic (q := 220) dX7_finds_219 rfl rfl ?_
                  refine x_add (q := 221) dX7_finds_220 rfl ⟨by omega, by omega⟩ ?_
                  refine x_is3 (q := 222) dX7_finds_221 rfl rfl ?_
                  refine x_ii4 (q := 225) dX7_finds_222 rfl rfl ⟨by omega, by omega⟩ ?_
                  refine x_goto (t := 117) dX7_finds_225 rfl ?_
                  have hC : tcn (aG (eT c) (Gd c) (nS c) s) (nd c) (w + 1) = tcn (aG (eT c) (Gd c) (nS c) s) (nd c) w + 0 := by show tcn (aG (eT c) (Gd c) (nS c) s) (nd c) w + b2i (aG (eT c) (Gd c) (nS c) s w && decide (tcn (aG (eT c) (Gd c) (nS c) s) (nd c) w < nd c)) = _; rw [hT]; simp [b2i]
                  rw [← hC]
                  refine ih _ _ _ (by rw [up_n _ _ _ (by decide)]; exact hyb) ⟨by rw [up_n _ _ _ (by decide)]; exact hy1, fun d h1 h2 => by rw [up_n _ _ _ h2]; exact hy2 d h1 h2, fun k h1 h2 => by rw [up_n _ _ _ (by decide)]; exact hy3 k h1 h2, fun s1 w1 a b h => ?_⟩
                  rw [up_at]
                  by_cases he : s1 = s ∧ w1 = w
                  · obtain ⟨rfl, rfl⟩ := he
                    rw [if_pos (by omega)]
                    unfold tT tg
                    rw [if_neg (by rw [hT]; decide)]
                  · rw [if_neg (by omega)]
                    exact hy4 s1 w1 a b (by omega)
                · skip
                  exact absurd c_212 (by decide)
              · skip
                exact absurd c_199 (by decide)
            · skip
              refine x_il (q := 149) dX7_finds_147 rfl rfl ?_
              refine x_bi (q := 151) dX7_finds_149 rfl rfl ?_
              refine x_ic_eq (t := 183) (q := 154) dX7_finds_151 rfl rfl (fun c_151 => ?_) (fun c_151 => ?_)
              · skip
                have hT : (aG (eT c) (Gd c) (nS c) s w && decide (tcn (aG (eT c) (Gd c) (nS c) s) (nd c) w < nd c)) = false := by unfold aG; rw [c_151, inS_9]; simp
                refine x_ic (q := 184) dX7_finds_183 rfl rfl ?_
                refine x_is6 (q := 186) dX7_finds_184 rfl rfl ?_
                refine x_al_n (q := 187) dX7_finds_186 rfl rfl ?_
                refine x_getR (q := 190) (o := some (78)) dX7_finds_187 rfl fX7_32 (hs _ _ rfl) rfl (hr _ _ rfl) ?_
                refine x_bi (q := 192) dX7_finds_190 rfl rfl ?_
                refine x_il_n (q := 193) dX7_finds_192 rfl rfl ?_
                refine x_mul (q := 194) dX7_finds_193 rfl ⟨by omega, by omega⟩ ?_
                refine x_il (q := 196) dX7_finds_194 rfl rfl ?_
                refine x_add (q := 197) dX7_finds_196 rfl ⟨by omega, by omega⟩ ?_
                refine x_il (q := 199) dX7_finds_197 rfl rfl ?_
                refine x_if_eq (t := 206) (q := 202) dX7_finds_199 rfl rfl (fun c_199 => ?_) (fun c_199 => ?_)
                · skip
                  refine x_bi (q := 208) dX7_finds_206 rfl rfl ?_
                  refine x_iast (q := 209) dX7_finds_208 rfl (hs _ _ rfl) (by omega) (by omega) ?_
                  refine x_il_n (q := 210) dX7_finds_209 rfl rfl ?_
                  refine x_il (q := 212) dX7_finds_210 rfl rfl ?_
                  refine x_if_eq (t := 219) (q := 215) dX7_finds_212 rfl rfl (fun c_212 => ?_) (fun c_212 => ?_)
                  · skip
                    refine x_ic (q := 220) dX7_finds_219 rfl rfl ?_
                    refine x_add (q := 221) dX7_finds_220 rfl ⟨by omega, by omega⟩ ?_
                    refine x_is3 (q := 222) dX7_finds_221 rfl rfl ?_
                    refine x_ii4 (q := 225) dX7_finds_222 rfl rfl ⟨by omega, by omega⟩ ?_
                    refine x_goto (t := 117) dX7_finds_225 rfl ?_
                    have hC : tcn (aG (eT c) (Gd c) (nS c) s) (nd c) (w + 1) = tcn (aG (eT c) (Gd c) (nS c) s) (nd c) w + 0 := by show tcn (aG (eT c) (Gd c) (nS c) s) (nd c) w + b2i (aG (eT c) (Gd c) (nS c) s w && decide (tcn (aG (eT c) (Gd c) (nS c) s) (nd c) w < nd c)) = _; rw [hT]; simp [b2i]
                    rw [← hC]
                    refine ih _ _ _ (by rw [up_n _ _ _ (by decide)]; exact hyb) ⟨by rw [up_n _ _ _ (by decide)]; exact hy1, fun d h1 h2 => by rw [up_n _ _ _ h2]; exact hy2 d h1 h2, fun k h1 h2 => by rw [up_n _ _ _ (by decide)]; exact hy3 k h1 h2, fun s1 w1 a b h => ?_⟩
                    rw [up_at]
                    by_cases he : s1 = s ∧ w1 = w
                    · obtain ⟨rfl, rfl⟩ := he
                      rw [if_pos (by omega)]
                      unfold tT tg
                      rw [if_neg (by rw [hT]; decide)]
                    · rw [if_neg (by omega)]
                      exact hy4 s1 w1 a b (by omega)
                  · skip
                    exact absurd c_212 (by decide)
                · skip
                  exact absurd c_199 (by decide)
              · skip
                refine x_al_n (q := 155) dX7_finds_154 rfl rfl ?_
                refine x_getIe (q := 158) (z := mk (Gd c) (nS c)) dX7_finds_155 rfl fX7_92 (hs _ _ rfl) rfl (hy1) ?_
                refine x_il (q := 160) dX7_finds_158 rfl rfl ?_
                refine x_shr (q := 161) dX7_finds_160 rfl (by omega) (by omega) (by omega) ?_
                refine x_ic (q := 162) dX7_finds_161 rfl rfl ?_
                refine x_and1 (q := 163) dX7_finds_162 rfl (by first | exact nn_dv (by omega) | omega) ?_
                refine x_ic (q := 164) dX7_finds_163 rfl rfl ?_
                refine x_ic_ne (t := 183) (q := 167) dX7_finds_164 rfl rfl (fun c_164 => ?_) (fun c_164 => ?_)
                · skip
                  have hT : (aG (eT c) (Gd c) (nS c) s w && decide (tcn (aG (eT c) (Gd c) (nS c) s) (nd c) w < nd c)) = false := by unfold aG; rw [inS_f (x := eT c s w) (by omega) (by omega) c_164]; simp
                  refine x_ic (q := 184) dX7_finds_183 rfl rfl ?_
                  refine x_is6 (q := 186) dX7_finds_184 rfl rfl ?_
                  refine x_al_n (q := 187) dX7_finds_186 rfl rfl ?_
                  refine x_getR (q := 190) (o := some (78)) dX7_finds_187 rfl fX7_32 (hs _ _ rfl) rfl (hr _ _ rfl) ?_
                  refine x_bi (q := 192) dX7_finds_190 rfl rfl ?_
                  refine x_il_n (q := 193) dX7_finds_192 rfl rfl ?_
                  refine x_mul (q := 194) dX7_finds_193 rfl ⟨by omega, by omega⟩ ?_
                  refine x_il (q := 196) dX7_finds_194 rfl rfl ?_
                  refine x_add (q := 197) dX7_finds_196 rfl ⟨by omega, by omega⟩ ?_
                  refine x_il (q := 199) dX7_finds_197 rfl rfl ?_
                  refine x_if_eq (t := 206) (q := 202) dX7_finds_199 rfl rfl (fun c_199 => ?_) (fun c_199 => ?_)
                  · skip
                    refine x_bi (q := 208) dX7_finds_206 rfl rfl ?_
                    refine x_iast (q := 209) dX7_finds_208 rfl (hs _ _ rfl) (by omega) (by omega) ?_
                    refine x_il_n (q := 210) dX7_finds_209 rfl rfl ?_
                    refine x_il (q := 212) dX7_finds_210 rfl rfl ?_
                    refine x_if_eq (t := 219) (q := 215) dX7_finds_212 rfl rfl (fun c_212 => ?_) (fun c_212 => ?_)
                    · skip
                      refine x_ic (q := 220) dX7_finds_219 rfl rfl ?_
                      refine x_add (q := 221) dX7_finds_220 rfl ⟨by omega, by omega⟩ ?_
                      refine x_is3 (q := 222) dX7_finds_221 rfl rfl ?_
                      refine x_ii4 (q := 225) dX7_finds_222 rfl rfl ⟨by omega, by omega⟩ ?_
                      refine x_goto (t := 117) dX7_finds_225 rfl ?_
                      have hC : tcn (aG (eT c) (Gd c) (nS c) s) (nd c) (w + 1) = tcn (aG (eT c) (Gd c) (nS c) s) (nd c) w + 0 := by show tcn (aG (eT c) (Gd c) (nS c) s) (nd c) w + b2i (aG (eT c) (Gd c) (nS c) s w && decide (tcn (aG (eT c) (Gd c) (nS c) s) (nd c) w < nd c)) = _; rw [hT]; simp [b2i]
                      rw [← hC]
                      refine ih _ _ _ (by rw [up_n _ _ _ (by decide)]; exact hyb) ⟨by rw [up_n _ _ _ (by decide)]; exact hy1, fun d h1 h2 => by rw [up_n _ _ _ h2]; exact hy2 d h1 h2, fun k h1 h2 => by rw [up_n _ _ _ (by decide)]; exact hy3 k h1 h2, fun s1 w1 a b h => ?_⟩
                      rw [up_at]
                      by_cases he : s1 = s ∧ w1 = w
                      · obtain ⟨rfl, rfl⟩ := he
                        rw [if_pos (by omega)]
                        unfold tT tg
                        rw [if_neg (by rw [hT]; decide)]
                      · rw [if_neg (by omega)]
                        exact hy4 s1 w1 a b (by omega)
                    · skip
                      exact absurd c_212 (by decide)
                  · skip
                    exact absurd c_199 (by decide)
                · skip
                  refine x_il_n (q := 168) dX7_finds_167 rfl rfl ?_
                  refine x_ic (q := 169) dX7_finds_168 rfl rfl ?_
                  refine x_al_n (q := 170) dX7_finds_169 rfl rfl ?_
                  refine x_getR (q := 173) (o := some (71)) dX7_finds_170 rfl fX7_7 (hs _ _ rfl) rfl (hr _ _ rfl) ?_
                  refine x_ic (q := 174) dX7_finds_173 rfl rfl ?_
                  refine x_ialde (q := 175) (z := c.2.2.2.1) dX7_finds_174 rfl (hs _ _ rfl) (by omega) (by omega) (hmy.2.2.2.1) ?_
                  refine x_pow (q := 176) dX7_finds_175 rfl (by omega) (by omega) ?_
                  refine x_ic_ge (t := 183) (q := 179) dX7_finds_176 rfl rfl (fun c_176 => ?_) (fun c_176 => ?_)
                  · skip
                    have hT : (aG (eT c) (Gd c) (nS c) s w && decide (tcn (aG (eT c) (Gd c) (nS c) s) (nd c) w < nd c)) = false := by rw [decide_eq_false (by omega)]; simp
                    refine x_ic (q := 184) dX7_finds_183 rfl rfl ?_
                    refine x_is6 (q := 186) dX7_finds_184 rfl rfl ?_
                    refine x_al_n (q := 187) dX7_finds_186 rfl rfl ?_
                    refine x_getR (q := 190) (o := some (78)) dX7_finds_187 rfl fX7_32 (hs _ _ rfl) rfl (hr _ _ rfl) ?_
                    refine x_bi (q := 192) dX7_finds_190 rfl rfl ?_
                    refine x_il_n (q := 193) dX7_finds_192 rfl rfl ?_
                    refine x_mul (q := 194) dX7_finds_193 rfl ⟨by omega, by omega⟩ ?_
                    refine x_il (q := 196) dX7_finds_194 rfl rfl ?_
                    refine x_add (q := 197) dX7_finds_196 rfl ⟨by omega, by omega⟩ ?_
                    refine x_il (q := 199) dX7_finds_197 rfl rfl ?_
                    refine x_if_eq (t := 206) (q := 202) dX7_finds_199 rfl rfl (fun c_199 => ?_) (fun c_199 => ?_)
                    · skip
                      refine x_bi (q := 208) dX7_finds_206 rfl rfl ?_
                      refine x_iast (q := 209) dX7_finds_208 rfl (hs _ _ rfl) (by omega) (by omega) ?_
                      refine x_il_n (q := 210) dX7_finds_209 rfl rfl ?_
                      refine x_il (q := 212) dX7_finds_210 rfl rfl ?_
                      refine x_if_eq (t := 219) (q := 215) dX7_finds_212 rfl rfl (fun c_212 => ?_) (fun c_212 => ?_)
                      · skip
                        refine x_ic (q := 220) dX7_finds_219 rfl rfl ?_
                        refine x_add (q := 221) dX7_finds_220 rfl ⟨by omega, by omega⟩ ?_
                        refine x_is3 (q := 222) dX7_finds_221 rfl rfl ?_
                        refine x_ii4 (q := 225) dX7_finds_222 rfl rfl ⟨by omega, by omega⟩ ?_
                        refine x_goto (t := 117) dX7_finds_225 rfl ?_
                        have hC : tcn (aG (eT c) (Gd c) (nS c) s) (nd c) (w + 1) = tcn (aG (eT c) (Gd c) (nS c) s) (nd c) w + 0 := by show tcn (aG (eT c) (Gd c) (nS c) s) (nd c) w + b2i (aG (eT c) (Gd c) (nS c) s w && decide (tcn (aG (eT c) (Gd c) (nS c) s) (nd c) w < nd c)) = _; rw [hT]; simp [b2i]
                        rw [← hC]
                        refine ih _ _ _ (by rw [up_n _ _ _ (by decide)]; exact hyb) ⟨by rw [up_n _ _ _ (by decide)]; exact hy1, fun d h1 h2 => by rw [up_n _ _ _ h2]; exact hy2 d h1 h2, fun k h1 h2 => by rw [up_n _ _ _ (by decide)]; exact hy3 k h1 h2, fun s1 w1 a b h => ?_⟩
                        rw [up_at]
                        by_cases he : s1 = s ∧ w1 = w
                        · obtain ⟨rfl, rfl⟩ := he
                          rw [if_pos (by omega)]
                          unfold tT tg
                          rw [if_neg (by rw [hT]; decide)]
                        · rw [if_neg (by omega)]
                          exact hy4 s1 w1 a b (by omega)
                      · skip
                        exact absurd c_212 (by decide)
                    · skip
                      exact absurd c_199 (by decide)
                  · skip
                    have hT : (aG (eT c) (Gd c) (nS c) s w && decide (tcn (aG (eT c) (Gd c) (nS c) s) (nd c) w < nd c)) = true := by rw [decide_eq_true (by omega)]; unfold aG; rw [inS_t (x := (s : Int)) (by omega) (by omega) c_144, inS_t (x := eT c s w) (by omega) (by omega) c_164]; rfl
                    refine x_ic (q := 180) dX7_finds_179 rfl rfl ?_
                    refine x_goto (t := 184) dX7_finds_180 rfl ?_
                    refine x_is6 (q := 186) dX7_finds_184 rfl rfl ?_
                    refine x_al_n (q := 187) dX7_finds_186 rfl rfl ?_
                    refine x_getR (q := 190) (o := some (78)) dX7_finds_187 rfl fX7_32 (hs _ _ rfl) rfl (hr _ _ rfl) ?_
                    refine x_bi (q := 192) dX7_finds_190 rfl rfl ?_
                    refine x_il_n (q := 193) dX7_finds_192 rfl rfl ?_
                    refine x_mul (q := 194) dX7_finds_193 rfl ⟨by omega, by omega⟩ ?_
                    refine x_il (q := 196) dX7_finds_194 rfl rfl ?_
                    refine x_add (q := 197) dX7_finds_196 rfl ⟨by omega, by omega⟩ ?_
                    refine x_il (q := 199) dX7_finds_197 rfl rfl ?_
                    refine x_if_eq (t := 206) (q := 202) dX7_finds_199 rfl rfl (fun c_199 => ?_) (fun c_199 => ?_)
                    · skip
                      exact absurd c_199 (by decide)
                    · skip
                      refine x_il_n (q := 203) dX7_finds_202 rfl rfl ?_
                      refine x_goto (t := 208) dX7_finds_203 rfl ?_
                      refine x_iast (q := 209) dX7_finds_208 rfl (hs _ _ rfl) (by omega) (by omega) ?_
                      refine x_il_n (q := 210) dX7_finds_209 rfl rfl ?_
                      refine x_il (q := 212) dX7_finds_210 rfl rfl ?_
                      refine x_if_eq (t := 219) (q := 215) dX7_finds_212 rfl rfl (fun c_212 => ?_) (fun c_212 => ?_)
                      · skip
                        exact absurd c_212 (by decide)
                      · skip
                        refine x_ic (q := 216) dX7_finds_215 rfl rfl ?_
                        refine x_goto (t := 220) dX7_finds_216 rfl ?_
                        refine x_add (q := 221) dX7_finds_220 rfl ⟨by omega, by omega⟩ ?_
                        refine x_is3 (q := 222) dX7_finds_221 rfl rfl ?_
                        refine x_ii4 (q := 225) dX7_finds_222 rfl rfl ⟨by omega, by omega⟩ ?_
                        refine x_goto (t := 117) dX7_finds_225 rfl ?_
                        have hC : tcn (aG (eT c) (Gd c) (nS c) s) (nd c) (w + 1) = tcn (aG (eT c) (Gd c) (nS c) s) (nd c) w + 1 := by show tcn (aG (eT c) (Gd c) (nS c) s) (nd c) w + b2i (aG (eT c) (Gd c) (nS c) s w && decide (tcn (aG (eT c) (Gd c) (nS c) s) (nd c) w < nd c)) = _; rw [hT]; rfl
                        rw [← hC]
                        refine ih _ _ _ (by rw [up_n _ _ _ (by decide)]; exact hyb) ⟨by rw [up_n _ _ _ (by decide)]; exact hy1, fun d h1 h2 => by rw [up_n _ _ _ h2]; exact hy2 d h1 h2, fun k h1 h2 => by rw [up_n _ _ _ (by decide)]; exact hy3 k h1 h2, fun s1 w1 a b h => ?_⟩
                        rw [up_at]
                        by_cases he : s1 = s ∧ w1 = w
                        · obtain ⟨rfl, rfl⟩ := he
                          rw [if_pos (by omega)]
                          unfold tT tg
                          rw [if_pos hT]
                        · rw [if_neg (by omega)]
                          exact hy4 s1 w1 a b (by omega)
  have fin : ∀ (u : Nat → Nat → Int), RowL u c → (∀ d, d ≠ 77 → u d = v d) → ∀ (x1 : Int) (o2 o3 o4 o5 o6 : Option AV), Wv g mX7_finds 0 0 95 [some (aR 70), some (aI x1), o2, o3, o4, o5, o6] [] (sh, rf, up u 70 11 (mk (Gd c) (nS c))) (putL (fun u => FND c v u) sh rf) := by
    intro u hu1 hu2 x1 o2 o3 o4 o5 o6
    have hmy : CM (up (up u 70 11 (mk (Gd c) (nS c))) 70 12 (-9)) c := hm.cong (by rw [up_n _ _ _ (by decide), up_n _ _ _ (by decide), hu2 71 (by decide)])
    refine x_al_n (q := 96) dX7_finds_95 rfl rfl ?_
    refine x_bi (q := 98) dX7_finds_96 rfl rfl ?_
    refine x_putI (q := 101) dX7_finds_98 rfl fX7_59 (hs _ _ rfl) (.inl rfl) rfl ?_
    refine x_al_n (q := 102) dX7_finds_101 rfl rfl ?_
    refine x_VI (q := 105) (ci := 7) dX7_finds_102 rfl kX7_finds_82 (m_states hs hr hmy hv) rfl rfl (hs _ _ rfl) (by decide) rfl (Nat.le_of_ble_eq_true rfl) ⟨rfl, rfl⟩ ⟨Nat.zero_le _, Nat.zero_le _⟩ ?_
    refine x_ic (q := 106) dX7_finds_105 rfl rfl ?_
    refine x_sub (q := 107) dX7_finds_106 rfl ⟨by omega, by omega⟩ ?_
    refine x_is2 (q := 108) dX7_finds_107 rfl rfl ?_
    refine tail u hu1 hu2 (nS c) _ _ _ _ _ _ (Nat.le_refl _) (by rw [up_at, if_pos rfl, Nat.sub_self]; rfl) ⟨by rw [up_at, if_neg (by decide), up_at, if_pos rfl], fun d h1 h2 => by rw [up_n _ _ _ h1, up_n _ _ _ h1], fun k h1 h2 => by rw [up_at, if_neg h2, up_at, if_neg h1], fun s1 w1 a b h => by omega⟩
  obtain ⟨jj, hj7, hjj⟩ := gk_ends (e := eT c) (n := nS c) (need := nd c) hS.2.1
  have loop : ∀ (u : Nat → Nat → Int), RowL u c → (∀ d, d ≠ 77 → u d = v d) → ∀ o2 o3 o4 o5 o6 : Option AV, Wv g mX7_finds 0 0 18 [some (aR 70), some (aI 0), o2, o3, o4, o5, o6] [] (sh, rf, up u 70 11 (mk (gk (eT c) (nS c) (nd c) 0) (nS c))) (putL (fun u => FND c v u) sh rf) := by
    intro u hu1 hu2 o2 o3 o4 o5 o6
    have ex : ∀ k : Nat, mk (gk (eT c) (nS c) (nd c) k) (nS c) = mk (gk (eT c) (nS c) (nd c) (k + 1)) (nS c) → mk (gk (eT c) (nS c) (nd c) k) (nS c) = mk (Gd c) (nS c) := fun k he => (mk_cong (gd_fix hS.2.1 (fun s hs => (mk_inj he s hs).symm)))
    refine x_up (S := fun k => ∀ o2 o3 o4 o5 o6 : Option AV, Wv g mX7_finds 0 0 18 [some (aR 70), some (aI (match k with | 0 => 0 | k + 1 => mk (gk (eT c) (nS c) (nd c) k) (nS c))), o2, o3, o4, o5, o6] [] (sh, rf, up u 70 11 (mk (gk (eT c) (nS c) (nd c) k) (nS c))) (putL (fun u => FND c v u) sh rf)) (jj + 1) ?_ ?_ 0 (Nat.zero_le _) o2 o3 o4 o5 o6
    · intro o2 o3 o4 o5 o6
      have hee : mk (gk (eT c) (nS c) (nd c) jj) (nS c) = mk (gk (eT c) (nS c) (nd c) (jj + 1)) (nS c) := mk_cong (fun s hs => (hjj s hs).symm)
      refine x_il_n (q := 19) dX7_finds_18 rfl rfl ?_
      refine x_al_n (q := 20) dX7_finds_19 rfl rfl ?_
      refine x_getIe (q := 23) (z := mk (gk (eT c) (nS c) (nd c) (jj + 1)) (nS c)) dX7_finds_20 rfl fX7_92 (hs _ _ rfl) rfl (by rw [up_at, if_pos rfl]) ?_
      refine x_ic_eq (t := 95) (q := 26) dX7_finds_23 rfl rfl (fun c_23 => ?_) (fun c_23 => ?_)
      · skip
        rw [← hee, ex jj hee]
        exact fin u hu1 hu2 _ _ _ _ _ _
      · skip
        exact absurd hee c_23
    · intro k hkj ihk o2 o3 o4 o5 o6
      have hmu : CM (up u 70 11 (mk (gk (eT c) (nS c) (nd c) k) (nS c))) c := hm.cong (by rw [up_n _ _ _ (by decide), hu2 71 (by decide)])
      have hRu : RowL (up u 70 11 (mk (gk (eT c) (nS c) (nd c) k) (nS c))) c := fun s1 w1 a b => by rw [up_n _ _ _ (by decide)]; exact hu1 s1 w1 a b
      refine x_il_n (q := 19) dX7_finds_18 rfl rfl ?_
      refine x_al_n (q := 20) dX7_finds_19 rfl rfl ?_
      refine x_getIe (q := 23) (z := mk (gk (eT c) (nS c) (nd c) k) (nS c)) dX7_finds_20 rfl fX7_92 (hs _ _ rfl) rfl (by rw [up_at, if_pos rfl]) ?_
      refine x_ic_eq (t := 95) (q := 26) dX7_finds_23 rfl rfl (fun c_23 => ?_) (fun c_23 => ?_)
      · skip
        cases k with
        | zero =>
          exfalso
          have h0 : mk (gk (eT c) (nS c) (nd c) 0) (nS c) = 2 ^ (nS c) - 1 := mk_all (nS c)
          have h1 := pw_le (k := 2) (n := nS c) (by omega)
          have h2 : (2 : Int) ^ 2 = 4 := by decide
          have h3 : (0 : Int) = mk (gk (eT c) (nS c) (nd c) 0) (nS c) := c_23
          omega
        | succ k =>
          have hee : mk (gk (eT c) (nS c) (nd c) k) (nS c) = mk (gk (eT c) (nS c) (nd c) (k + 1)) (nS c) := c_23
          rw [← hee, ex k hee]
          exact fin u hu1 hu2 _ _ _ _ _ _
      · skip
        refine x_al_n (q := 27) dX7_finds_26 rfl rfl ?_
        refine x_getIe (q := 30) (z := mk (gk (eT c) (nS c) (nd c) k) (nS c)) dX7_finds_27 rfl fX7_92 (hs _ _ rfl) rfl (by rw [up_at, if_pos rfl]) ?_
        refine x_is1 (q := 31) dX7_finds_30 rfl rfl ?_
        refine x_ic (q := 32) dX7_finds_31 rfl rfl ?_
        refine x_is2 (q := 33) dX7_finds_32 rfl rfl ?_
        refine x_ic (q := 34) dX7_finds_33 rfl rfl ?_
        refine x_is3 (q := 35) dX7_finds_34 rfl rfl ?_
        refine x_up (S := fun s => Wv g mX7_finds 0 0 35 [some (aR 70), some (aI (mk (gk (eT c) (nS c) (nd c) k) (nS c))), some (aI (mk (gk (eT c) (nS c) (nd c) (k + 1)) s)), some (aI (s : Int)), o4, o5, o6] [] (sh, rf, up u 70 11 (mk (gk (eT c) (nS c) (nd c) k) (nS c))) (putL (fun u => FND c v u) sh rf)) (nS c) ?_ ?_ 0 (Nat.zero_le _)
        · skip
          refine x_il_n (q := 36) dX7_finds_35 rfl rfl ?_
          refine x_al_n (q := 37) dX7_finds_36 rfl rfl ?_
          refine x_VI (q := 40) (ci := 7) dX7_finds_37 rfl kX7_finds_82 (m_states hs hr hmu hv) rfl rfl (hs _ _ rfl) (by decide) rfl (Nat.le_of_ble_eq_true rfl) ⟨rfl, rfl⟩ ⟨Nat.zero_le _, Nat.zero_le _⟩ ?_
          refine x_ic_ge (t := 87) (q := 43) dX7_finds_40 rfl rfl (fun c_40 => ?_) (fun c_40 => ?_)
          · skip
            refine x_al_n (q := 88) dX7_finds_87 rfl rfl ?_
            refine x_il_n (q := 89) dX7_finds_88 rfl rfl ?_
            refine x_putI (q := 92) dX7_finds_89 rfl fX7_92 (hs _ _ rfl) (.inl rfl) rfl ?_
            refine x_goto (t := 18) dX7_finds_92 rfl ?_
            rw [up_up]
            exact ihk _ _ _ _ _
          · skip
            exact absurd (Int.le_refl _) c_40
        · intro s hsn ih
          have hmk := mk_rng (gk (eT c) (nS c) (nd c) k) (nS c)
          have hml := mk_rng (gk (eT c) (nS c) (nd c) (k + 1)) s
          refine x_il_n (q := 36) dX7_finds_35 rfl rfl ?_
          refine x_al_n (q := 37) dX7_finds_36 rfl rfl ?_
          refine x_VI (q := 40) (ci := 7) dX7_finds_37 rfl kX7_finds_82 (m_states hs hr hmu hv) rfl rfl (hs _ _ rfl) (by decide) rfl (Nat.le_of_ble_eq_true rfl) ⟨rfl, rfl⟩ ⟨Nat.zero_le _, Nat.zero_le _⟩ ?_
          refine x_ic_ge (t := 87) (q := 43) dX7_finds_40 rfl rfl (fun c_40 => ?_) (fun c_40 => ?_)
          · skip
            exact absurd c_40 (by omega)
          · skip
            refine x_il_n (q := 44) dX7_finds_43 rfl rfl ?_
            refine x_al_n (q := 45) dX7_finds_44 rfl rfl ?_
            refine x_getIe (q := 48) (z := mk (gk (eT c) (nS c) (nd c) k) (nS c)) dX7_finds_45 rfl fX7_92 (hs _ _ rfl) rfl (by rw [up_at, if_pos rfl]) ?_
            refine x_il_n (q := 49) dX7_finds_48 rfl rfl ?_
            refine x_shr (q := 50) dX7_finds_49 rfl (by omega) (by omega) (by omega) ?_
            refine x_ic (q := 51) dX7_finds_50 rfl rfl ?_
            refine x_and1 (q := 52) dX7_finds_51 rfl (by first | exact nn_dv (by omega) | omega) ?_
            refine x_ic (q := 53) dX7_finds_52 rfl rfl ?_
            refine x_ic_ne (t := 78) (q := 56) dX7_finds_53 rfl rfl (fun c_53 => ?_) (fun c_53 => ?_)
            · skip
              have hg0 : gk (eT c) (nS c) (nd c) (k + 1) s = false := by show (inS _ _ _ && _) = false; rw [inS_f (x := (s : Int)) (by omega) (by omega) c_53]; rfl
              rw [mk_s, if_neg (by rw [hg0]; decide), Int.add_zero] at ih
              refine x_ic (q := 79) dX7_finds_78 rfl rfl ?_
              first
              | refine x_orP (q := 80) dX7_finds_79 rfl hml.1 hml.2 ?_
              | (refine x_or (q := 80) dX7_finds_79 rfl hml.1 (by decide) ?_; rw [show (((mk (gk (eT c) (nS c) (nd c) (k + 1)) s).toNat ||| (0 : Int).toNat : Nat) : Int) = mk (gk (eT c) (nS c) (nd c) (k + 1)) s by rw [show (0 : Int).toNat = 0 from rfl, Nat.or_zero]; omega])
              refine x_is2 (q := 81) dX7_finds_80 rfl rfl ?_
              refine x_ii3 (q := 84) dX7_finds_81 rfl rfl ⟨by omega, by omega⟩ ?_
              refine x_goto (t := 35) dX7_finds_84 rfl ?_
              exact ih
            · skip
              refine x_al_n (q := 57) dX7_finds_56 rfl rfl ?_
              refine x_il_n (q := 58) dX7_finds_57 rfl rfl ?_
              refine x_VI (q := 61) (ci := 7) dX7_finds_58 rfl kX7_finds_98 (m_goodArcs hs hr hmu hv (f := gk (eT c) (nS c) (nd c) k) (s := s) hRu (by rw [up_at, if_pos rfl]) hsn) rfl rfl (hs _ _ rfl) (by decide) rfl (Nat.le_of_ble_eq_true rfl) ⟨rfl, rfl⟩ ⟨Nat.zero_le _, Nat.zero_le _⟩ ?_
              refine x_ic (q := 62) dX7_finds_61 rfl rfl ?_
              refine x_al_n (q := 63) dX7_finds_62 rfl rfl ?_
              refine x_getR (q := 66) (o := some (71)) dX7_finds_63 rfl fX7_7 (hs _ _ rfl) rfl (hr _ _ rfl) ?_
              refine x_ic (q := 67) dX7_finds_66 rfl rfl ?_
              refine x_ialde (q := 68) (z := c.2.2.2.1) dX7_finds_67 rfl (hs _ _ rfl) (by omega) (by omega) (hmu.2.2.2.1) ?_
              refine x_pow (q := 69) dX7_finds_68 rfl (by omega) (by omega) ?_
              refine x_ic_lt (t := 78) (q := 72) dX7_finds_69 rfl rfl (fun c_69 => ?_) (fun c_69 => ?_)
              · skip
                have hg0 : gk (eT c) (nS c) (nd c) (k + 1) s = false := by show (inS _ _ _ && decide (nd c ≤ _)) = false; rw [decide_eq_false (by omega)]; simp
                rw [mk_s, if_neg (by rw [hg0]; decide), Int.add_zero] at ih
                refine x_ic (q := 79) dX7_finds_78 rfl rfl ?_
                first
                | refine x_orP (q := 80) dX7_finds_79 rfl hml.1 hml.2 ?_
                | (refine x_or (q := 80) dX7_finds_79 rfl hml.1 (by decide) ?_; rw [show (((mk (gk (eT c) (nS c) (nd c) (k + 1)) s).toNat ||| (0 : Int).toNat : Nat) : Int) = mk (gk (eT c) (nS c) (nd c) (k + 1)) s by rw [show (0 : Int).toNat = 0 from rfl, Nat.or_zero]; omega])
                refine x_is2 (q := 81) dX7_finds_80 rfl rfl ?_
                refine x_ii3 (q := 84) dX7_finds_81 rfl rfl ⟨by omega, by omega⟩ ?_
                refine x_goto (t := 35) dX7_finds_84 rfl ?_
                exact ih
              · skip
                have hg0 : gk (eT c) (nS c) (nd c) (k + 1) s = true := by show (inS _ _ _ && decide (nd c ≤ _)) = true; rw [decide_eq_true (by omega), inS_t (x := (s : Int)) (by omega) (by omega) c_53]; rfl
                rw [mk_s, if_pos hg0] at ih
                refine x_ic (q := 73) dX7_finds_72 rfl rfl ?_
                refine x_il_n (q := 74) dX7_finds_73 rfl rfl ?_
                refine x_pow (q := 75) dX7_finds_74 rfl (by omega) (by omega) ?_
                rw [Int.toNat_natCast]
                refine x_goto (t := 79) dX7_finds_75 rfl ?_
                first
                | refine x_orP (q := 80) dX7_finds_79 rfl hml.1 hml.2 ?_
                | (refine x_or (q := 80) dX7_finds_79 rfl hml.1 (by decide) ?_; rw [show (((mk (gk (eT c) (nS c) (nd c) (k + 1)) s).toNat ||| (0 : Int).toNat : Nat) : Int) = mk (gk (eT c) (nS c) (nd c) (k + 1)) s by rw [show (0 : Int).toNat = 0 from rfl, Nat.or_zero]; omega])
                refine x_is2 (q := 81) dX7_finds_80 rfl rfl ?_
                refine x_ii3 (q := 84) dX7_finds_81 rfl rfl ⟨by omega, by omega⟩ ?_
                refine x_goto (t := 35) dX7_finds_84 rfl ?_
                exact ih
  refine x_al_n (q := 1) dX7_finds_0 rfl rfl ?_
  refine x_V (q := 4) (ci := 7) dX7_finds_1 rfl kX7_finds_95 (m_layArcs hs hr hm hv) rfl rfl (hs _ _ rfl) (by decide) rfl (Nat.le_of_ble_eq_true rfl) ⟨rfl, rfl⟩ ⟨Nat.zero_le _, Nat.zero_le _⟩ (fun r1 h1 hp => ?_)
  obtain ⟨rfl, u, rfl, hu1, hu2⟩ := hp
  have hmu : CM u c := hm.cong (hu2 71 (by decide))
  refine x_al_n (q := 5) dX7_finds_4 rfl rfl ?_
  refine x_ic (q := 6) dX7_finds_5 rfl rfl ?_
  refine x_al_n (q := 7) dX7_finds_6 rfl rfl ?_
  refine x_VI (q := 10) (ci := 7) dX7_finds_7 rfl kX7_finds_82 (m_states hs hr hmu hv) rfl rfl (hs _ _ rfl) (by decide) rfl (Nat.le_of_ble_eq_true rfl) ⟨rfl, rfl⟩ ⟨Nat.zero_le _, Nat.zero_le _⟩ ?_
  refine x_pow (q := 11) dX7_finds_10 rfl (by omega) (by omega) ?_
  rw [Int.toNat_natCast]
  refine x_ic (q := 12) dX7_finds_11 rfl rfl ?_
  refine x_sub (q := 13) dX7_finds_12 rfl ⟨by have := pw_pos (nS c); omega, by have := pw_le (k := nS c) (n := 20) (by omega); omega⟩ ?_
  rw [← mk_all (nS c)]
  refine x_putI (q := 16) dX7_finds_13 rfl fX7_92 (hs _ _ rfl) (.inl rfl) rfl ?_
  refine x_ic (q := 17) dX7_finds_16 rfl rfl ?_
  refine x_is1 (q := 18) dX7_finds_17 rfl rfl ?_
  exact loop u hu1 hu2 _ _ _ _ _
set_option maxHeartbeats 4000000 in
set_option maxRecDepth 100000 in
theorem m_begins (hs : ExtM sh) (hr : RokM rf) (hm : CM v c) (hv : Vld c)  : Cv g mX7_begins [aR 70] (sh, rf, v) (putL (fun u => u 71 5 = 0 ∧ u 71 6 = Bg c ∧ (∀ k, k ≠ 5 → k ≠ 6 → u 71 k = v 71 k) ∧ (∀ d, d ≠ 70 → d ≠ 71 → d ≠ 77 → d ≠ 78 → u d = v d) ∧ ∀ k, k ≠ 11 → k ≠ 12 → u 70 k = v 70 k) sh rf) := by
  have hS := nS_rng hv
  have hd := nd_rng hv
  have hq := pw16 hv.2.2.2.1 hv.2.2.2.2
  obtain ⟨hvB, hp1, hp2, hq1, hq2⟩ := id hv
  refine x_entry (ls := [some (aR 70)]) rfl rfl (Nat.le_of_ble_eq_true rfl) ?_
  refine x_al_n (q := 1) dX7_begins_0 rfl rfl ?_
  refine x_V (q := 4) (ci := 7) dX7_begins_1 rfl kX7_begins_56 (m_finds hs hr hm hv) rfl rfl (hs _ _ rfl) (by decide) rfl (Nat.le_of_ble_eq_true rfl) ⟨rfl, rfl⟩ ⟨Nat.zero_le _, Nat.zero_le _⟩ (fun r1 h1 hp => ?_)
  obtain ⟨rfl, u, rfl, f1, f2, f3, f4, f5, f6⟩ := hp
  refine x_al_n (q := 5) dX7_begins_4 rfl rfl ?_
  refine x_getR (q := 8) (o := some (71)) dX7_begins_5 rfl fX7_7 (hs _ _ rfl) rfl (hr _ _ rfl) ?_
  refine x_ic (q := 9) dX7_begins_8 rfl rfl ?_
  refine x_ic (q := 10) dX7_begins_9 rfl rfl ?_
  refine x_iast (q := 11) dX7_begins_10 rfl (hs _ _ rfl) (by omega) (by omega) ?_
  refine x_al_n (q := 12) dX7_begins_11 rfl rfl ?_
  refine x_getR (q := 15) (o := some (71)) dX7_begins_12 rfl fX7_7 (hs _ _ rfl) rfl (hr _ _ rfl) ?_
  refine x_bi (q := 17) dX7_begins_15 rfl rfl ?_
  refine x_al_n (q := 18) dX7_begins_17 rfl rfl ?_
  refine x_getIe (q := 21) (z := Bg c) dX7_begins_18 rfl fX7_59 (hs _ _ rfl) rfl (by rw [up_n _ _ _ (by decide)]; exact f4) ?_
  refine x_iast (q := 22) dX7_begins_21 rfl (hs _ _ rfl) (by omega) (by omega) ?_
  exact x_vret dX7_begins_22 rfl rfl (Nat.zero_le _) (by exact ⟨rfl, _, rfl, by rw [up_at, if_neg (by decide), up_at, if_pos (by decide)], by rw [up_at, if_pos (by decide)], fun k h1 h2 => by rw [up_at, if_neg (show ¬ k = (6 : Int).toNat from h2), up_at, if_neg (show ¬ k = (5 : Int).toNat from h1), f5 71 (by decide) (by decide) (by decide)], fun d h1 h2 h3 h4 => by rw [up_n _ _ _ h2, up_n _ _ _ h2, f5 d h1 h3 h4], fun k h1 h2 => by rw [up_n _ _ _ (by decide), up_n _ _ _ (by decide), f6 k h1 h2]⟩)
end FIN

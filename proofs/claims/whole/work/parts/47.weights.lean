/-! ===== the Model: weights, rows ===== -/
theorem wk_out {c : Cfg} {p l : Int} (h0 : 0 ≤ l) (h1 : l ≤ 9) : ∀ (k s : Nat), nS c ≤ s → wk (eT c) p (x0l l (nS c)) k s = 0
  | 0, s, hs => by show (if s < nS c then l else 0) = 0; rw [if_neg (by omega)]
  | k + 1, s, hs => by
    have ih := wk_out h0 h1 (p := p) k s hs
    have hr := (so16_rng (e := eT c) (wk_rng (e := eT c) (p := p) (x0l_rng (n := nS c) h0 h1) k) s 16).1
    have hd : 0 ≤ so16 (eT c) (wk (eT c) p (x0l l (nS c)) k) s 16 / 2 ^ p.toNat := nn_dv hr
    show lsn (eT c) p (wk (eT c) p (x0l l (nS c)) k) s = 0
    unfold lsn
    rw [ih, if_neg (by omega)]
theorem so_pad {e : Nat → Nat → Int} {x : Nat → Int} {s m : Nat} (h : ∀ w, m ≤ w → e s w = -9) : ∀ {k}, m ≤ k → so16 e x s k = so16 e x s m := by
  intro k hk
  obtain ⟨d, rfl⟩ : ∃ d, k = m + d := ⟨k - m, by omega⟩
  clear hk
  induction d with
  | zero => rfl
  | succ d ih =>
    show so16 e x s (m + d) + atx x (e s (m + d)) = _
    rw [h _ (by omega), ih]
    show _ + (if 0 ≤ (-9 : Int) ∧ (-9 : Int) < 7 then _ else 0) = _
    rw [if_neg (by omega), Int.add_zero]
section MOR
variable {g : GL} {sh : List (Nat × Nat)} {rf : Nat → Nat → Option Nat} {v : Nat → Nat → Int} {S : St} {c : Cfg}

set_option maxHeartbeats 4000000 in
set_option maxRecDepth 100000 in
theorem m_weighs (hs : ExtM sh) (hr : RokM rf) (hm : CM v c) (hv : Vld c) {l : Int} (hL : RowL v c) (hl0 : 1 ≤ l) (hl1 : l ≤ 9) : Cv g mX7_weighs [aR 70, aI l] (sh, rf, v) (putL (fun u => (∀ s, s < nS c → u 80 s = WT (eT c) c.2.2.2.1 l (nS c) s) ∧ ∀ d, d ≠ 80 → d ≠ 81 → u d = v d) sh rf) := by
  have hS := nS_rng hv
  have hd := nd_rng hv
  have hq := pw16 hv.2.2.2.1 hv.2.2.2.2
  obtain ⟨hvB, hp1, hp2, hq1, hq2⟩ := id hv
  obtain ⟨m, hmq⟩ : ∃ m : Nat, (m : Int) = 2 ^ c.2.2.2.2.toNat := ⟨2 ^ c.2.2.2.2.toNat, by simp⟩
  have h9 := x0l_rng (l := l) (n := nS c) (by omega) hl1
  have hwr := wk_rng (e := eT c) (p := c.2.2.2.1) h9
  have round : ∀ (k : Nat) (u : Nat → Nat → Int) (o2 o3 o4 o5 : Option AV), ((∀ s, s < nS c → u 80 s = wk (eT c) c.2.2.2.1 (x0l l (nS c)) k s) ∧ ∀ d, d ≠ 80 → d ≠ 81 → u d = v d) → (∀ (y : Nat → Nat → Int) (o3 o4 o5 : Option AV), ((∀ s, s < nS c → y 80 s = wk (eT c) c.2.2.2.1 (x0l l (nS c)) (k + 1) s) ∧ ∀ d, d ≠ 80 → d ≠ 81 → y d = v d) → Wv g mX7_weighs 0 0 25 [some (aR 70), some (aI l), some (aI (b2i (anyN (fun s => !decide (wk (eT c) c.2.2.2.1 (x0l l (nS c)) (k + 1) s = wk (eT c) c.2.2.2.1 (x0l l (nS c)) k s)) (nS c)))), o3, o4, o5] [] (sh, rf, y) (putL (fun u => (∀ s, s < nS c → u 80 s = WT (eT c) c.2.2.2.1 l (nS c) s) ∧ ∀ d, d ≠ 80 → d ≠ 81 → u d = v d) sh rf)) → Wv g mX7_weighs 0 0 29 [some (aR 70), some (aI l), o2, o3, o4, o5] [] (sh, rf, u) (putL (fun u => (∀ s, s < nS c → u 80 s = WT (eT c) c.2.2.2.1 l (nS c) s) ∧ ∀ d, d ≠ 80 → d ≠ 81 → u d = v d) sh rf) := by
    intro k u o2 o3 o4 o5 ⟨hu1, hu2⟩ hn
    refine x_ic (q := 30) dX7_weighs_29 rfl rfl ?_
    refine x_is2 (q := 31) dX7_weighs_30 rfl rfl ?_
    refine x_ic (q := 32) dX7_weighs_31 rfl rfl ?_
    refine x_is3 (q := 33) dX7_weighs_32 rfl rfl ?_
    refine x_up (S := fun s => ∀ (y : Nat → Nat → Int) (o4 o5 : Option AV), ((∀ j, j < s → y 81 j = wk (eT c) c.2.2.2.1 (x0l l (nS c)) (k + 1) j) ∧ ∀ d, d ≠ 81 → y d = u d) → Wv g mX7_weighs 0 0 33 [some (aR 70), some (aI l), some (aI 0), some (aI (s : Int)), o4, o5] [] (sh, rf, y) (putL (fun u => (∀ s, s < nS c → u 80 s = WT (eT c) c.2.2.2.1 l (nS c) s) ∧ ∀ d, d ≠ 80 → d ≠ 81 → u d = v d) sh rf)) (nS c) ?_ ?_ 0 (Nat.zero_le _) u o4 o5 ⟨fun j hj => by omega, fun _ _ => rfl⟩
    · intro y o4 o5 ⟨hy1, hy2⟩
      have hmy : CM y c := hm.cong (by rw [hy2 71 (by decide), hu2 71 (by decide) (by decide)])
      have hLy : RowL y c := fun s1 w1 a b => by rw [hy2 77 (by decide), hu2 77 (by decide) (by decide)]; exact hL s1 w1 a b
      refine x_il_n (q := 34) dX7_weighs_33 rfl rfl ?_
      refine x_al_n (q := 35) dX7_weighs_34 rfl rfl ?_
      refine x_VI (q := 38) (ci := 7) dX7_weighs_35 rfl kX7_weighs_82 (m_states hs hr hmy hv) rfl rfl (hs _ _ rfl) (by decide) rfl (Nat.le_of_ble_eq_true rfl) ⟨rfl, rfl⟩ ⟨Nat.zero_le _, Nat.zero_le _⟩ ?_
      refine x_ic_ge (t := 140) (q := 41) dX7_weighs_38 rfl rfl (fun c_38 => ?_) (fun c_38 => ?_)
      · skip
        refine x_ic (q := 141) dX7_weighs_140 rfl rfl ?_
        refine x_is3 (q := 142) dX7_weighs_141 rfl rfl ?_
        refine x_up (S := fun s => ∀ z : Nat → Nat → Int, ((∀ j, j < s → z 80 j = wk (eT c) c.2.2.2.1 (x0l l (nS c)) (k + 1) j) ∧ (∀ j, s ≤ j → j < nS c → z 80 j = wk (eT c) c.2.2.2.1 (x0l l (nS c)) k j) ∧ ∀ d, d ≠ 80 → z d = y d) → Wv g mX7_weighs 0 0 142 [some (aR 70), some (aI l), some (aI (b2i (anyN (fun s => !decide (wk (eT c) c.2.2.2.1 (x0l l (nS c)) (k + 1) s = wk (eT c) c.2.2.2.1 (x0l l (nS c)) k s)) s))), some (aI (s : Int)), o4, o5] [] (sh, rf, z) (putL (fun u => (∀ s, s < nS c → u 80 s = WT (eT c) c.2.2.2.1 l (nS c) s) ∧ ∀ d, d ≠ 80 → d ≠ 81 → u d = v d) sh rf)) (nS c) ?_ ?_ 0 (Nat.zero_le _) y ⟨fun j hj => by omega, fun j _ hj => by rw [hy2 80 (by decide)]; exact hu1 j hj, fun _ _ => rfl⟩
        · intro z ⟨hz1, hz2, hz3⟩
          have hmz : CM z c := hmy.cong (hz3 71 (by decide))
          refine x_il_n (q := 143) dX7_weighs_142 rfl rfl ?_
          refine x_al_n (q := 144) dX7_weighs_143 rfl rfl ?_
          refine x_VI (q := 147) (ci := 7) dX7_weighs_144 rfl kX7_weighs_82 (m_states hs hr hmz hv) rfl rfl (hs _ _ rfl) (by decide) rfl (Nat.le_of_ble_eq_true rfl) ⟨rfl, rfl⟩ ⟨Nat.zero_le _, Nat.zero_le _⟩ ?_
          refine x_ic_ge (t := 193) (q := 150) dX7_weighs_147 rfl rfl (fun c_147 => ?_) (fun c_147 => ?_)
          · skip
            refine x_goto (t := 25) dX7_weighs_193 rfl ?_
            exact hn z _ _ _ ⟨hz1, fun d h1 h2 => by rw [hz3 d h1, hy2 d h2, hu2 d h1 h2]⟩
          · skip
            exact absurd (Int.le_refl _) c_147
        · intro s hsn ihs z ⟨hz1, hz2, hz3⟩
          have hmz : CM z c := hmy.cong (hz3 71 (by decide))
          have nxt : ∀ b : Bool, b = anyN (fun s => !decide (wk (eT c) c.2.2.2.1 (x0l l (nS c)) (k + 1) s = wk (eT c) c.2.2.2.1 (x0l l (nS c)) k s)) (s + 1) → Wv g mX7_weighs 0 0 174 [some (aR 70), some (aI l), some (aI (b2i (anyN (fun s => !decide (wk (eT c) c.2.2.2.1 (x0l l (nS c)) (k + 1) s = wk (eT c) c.2.2.2.1 (x0l l (nS c)) k s)) s))), some (aI (s : Int)), o4, o5] [aI (b2i b)] (sh, rf, z) (putL (fun u => (∀ s, s < nS c → u 80 s = WT (eT c) c.2.2.2.1 l (nS c) s) ∧ ∀ d, d ≠ 80 → d ≠ 81 → u d = v d) sh rf) := by
            intro b hb
            subst hb
            refine x_is2 (q := 175) dX7_weighs_174 rfl rfl ?_
            refine x_al_n (q := 176) dX7_weighs_175 rfl rfl ?_
            refine x_getR (q := 179) (o := some (80)) dX7_weighs_176 rfl fX7_38 (hs _ _ rfl) rfl (hr _ _ rfl) ?_
            refine x_il_n (q := 180) dX7_weighs_179 rfl rfl ?_
            refine x_al_n (q := 181) dX7_weighs_180 rfl rfl ?_
            refine x_getR (q := 184) (o := some (81)) dX7_weighs_181 rfl fX7_41 (hs _ _ rfl) rfl (hr _ _ rfl) ?_
            refine x_il_n (q := 185) dX7_weighs_184 rfl rfl ?_
            refine x_ialde (q := 186) (z := wk (eT c) c.2.2.2.1 (x0l l (nS c)) (k + 1) s) dX7_weighs_185 rfl (hs _ _ rfl) (by omega) (by omega) (by rw [hz3 81 (by decide), Int.toNat_natCast]; exact hy1 s hsn) ?_
            refine x_iast (q := 187) dX7_weighs_186 rfl (hs _ _ rfl) (by omega) (by omega) ?_
            refine x_ii3 (q := 190) dX7_weighs_187 rfl rfl ⟨by omega, by omega⟩ ?_
            refine x_goto (t := 142) dX7_weighs_190 rfl ?_
            rw [Int.toNat_natCast]
            refine ihs _ ⟨fun j hj => ?_, fun j h1 h2 => ?_, fun d hd => by rw [up_n _ _ _ hd]; exact hz3 d hd⟩
            · rw [up_at]
              by_cases he : j = s
              · rw [if_pos he, he]
              · rw [if_neg he]; exact hz1 j (by omega)
            · rw [up_at, if_neg (by omega)]; exact hz2 j (by omega) h2
          refine x_il_n (q := 143) dX7_weighs_142 rfl rfl ?_
          refine x_al_n (q := 144) dX7_weighs_143 rfl rfl ?_
          refine x_VI (q := 147) (ci := 7) dX7_weighs_144 rfl kX7_weighs_82 (m_states hs hr hmz hv) rfl rfl (hs _ _ rfl) (by decide) rfl (Nat.le_of_ble_eq_true rfl) ⟨rfl, rfl⟩ ⟨Nat.zero_le _, Nat.zero_le _⟩ ?_
          refine x_ic_ge (t := 193) (q := 150) dX7_weighs_147 rfl rfl (fun c_147 => ?_) (fun c_147 => ?_)
          · skip
            exact absurd c_147 (by omega)
          · skip
            refine x_il_n (q := 151) dX7_weighs_150 rfl rfl ?_
            refine x_if_ne (t := 169) (q := 154) dX7_weighs_151 rfl rfl (fun c_151 => ?_) (fun c_151 => ?_)
            · skip
              have hb := b2i_n0.mp c_151
              have hq : true = anyN (fun s => !decide (wk (eT c) c.2.2.2.1 (x0l l (nS c)) (k + 1) s = wk (eT c) c.2.2.2.1 (x0l l (nS c)) k s)) (s + 1) := by show true = (anyN (fun s => !decide (wk (eT c) c.2.2.2.1 (x0l l (nS c)) (k + 1) s = wk (eT c) c.2.2.2.1 (x0l l (nS c)) k s)) s || _); rw [hb]; rfl
              refine x_ic (q := 170) dX7_weighs_169 rfl rfl ?_
              refine x_goto (t := 174) dX7_weighs_170 rfl ?_
              exact nxt _ hq
            · skip
              have hb := b2i_0.mp c_151
              refine x_al_n (q := 155) dX7_weighs_154 rfl rfl ?_
              refine x_getR (q := 158) (o := some (81)) dX7_weighs_155 rfl fX7_41 (hs _ _ rfl) rfl (hr _ _ rfl) ?_
              refine x_il_n (q := 159) dX7_weighs_158 rfl rfl ?_
              refine x_ialde (q := 160) (z := wk (eT c) c.2.2.2.1 (x0l l (nS c)) (k + 1) s) dX7_weighs_159 rfl (hs _ _ rfl) (by omega) (by omega) (by rw [hz3 81 (by decide), Int.toNat_natCast]; exact hy1 s hsn) ?_
              refine x_al_n (q := 161) dX7_weighs_160 rfl rfl ?_
              refine x_getR (q := 164) (o := some (80)) dX7_weighs_161 rfl fX7_38 (hs _ _ rfl) rfl (hr _ _ rfl) ?_
              refine x_il_n (q := 165) dX7_weighs_164 rfl rfl ?_
              refine x_ialde (q := 166) (z := wk (eT c) c.2.2.2.1 (x0l l (nS c)) k s) dX7_weighs_165 rfl (hs _ _ rfl) (by omega) (by omega) (by rw [Int.toNat_natCast]; exact hz2 s (Nat.le_refl _) hsn) ?_
              refine x_ic_eq (t := 173) (q := 169) dX7_weighs_166 rfl rfl (fun c_166 => ?_) (fun c_166 => ?_)
              · skip
                have hq : false = anyN (fun s => !decide (wk (eT c) c.2.2.2.1 (x0l l (nS c)) (k + 1) s = wk (eT c) c.2.2.2.1 (x0l l (nS c)) k s)) (s + 1) := by show false = (anyN (fun s => !decide (wk (eT c) c.2.2.2.1 (x0l l (nS c)) (k + 1) s = wk (eT c) c.2.2.2.1 (x0l l (nS c)) k s)) s || !decide _); rw [hb, decide_eq_true c_166]; rfl
                refine x_ic (q := 174) dX7_weighs_173 rfl rfl ?_
                exact nxt _ hq
              · skip
                have hq : true = anyN (fun s => !decide (wk (eT c) c.2.2.2.1 (x0l l (nS c)) (k + 1) s = wk (eT c) c.2.2.2.1 (x0l l (nS c)) k s)) (s + 1) := by show true = (anyN (fun s => !decide (wk (eT c) c.2.2.2.1 (x0l l (nS c)) (k + 1) s = wk (eT c) c.2.2.2.1 (x0l l (nS c)) k s)) s || !decide _); rw [hb, decide_eq_false c_166]; rfl
                refine x_ic (q := 170) dX7_weighs_169 rfl rfl ?_
                refine x_goto (t := 174) dX7_weighs_170 rfl ?_
                exact nxt _ hq
      · skip
        exact absurd (Int.le_refl _) c_38
    · intro s hsn ihs y o4 o5 ⟨hy1, hy2⟩
      have hmy : CM y c := hm.cong (by rw [hy2 71 (by decide), hu2 71 (by decide) (by decide)])
      have hLy : RowL y c := fun s1 w1 a b => by rw [hy2 77 (by decide), hu2 77 (by decide) (by decide)]; exact hL s1 w1 a b
      have hsp : so16 (eT c) (wk (eT c) c.2.2.2.1 (x0l l (nS c)) k) s 16 = so16 (eT c) (wk (eT c) c.2.2.2.1 (x0l l (nS c)) k) s m := so_pad (fun w hw => eT_o2 (by omega)) (by omega)
      have hsm := so16_rng (e := eT c) (hwr k) s m
      have hwks := hwr k s
      refine x_il_n (q := 34) dX7_weighs_33 rfl rfl ?_
      refine x_al_n (q := 35) dX7_weighs_34 rfl rfl ?_
      refine x_VI (q := 38) (ci := 7) dX7_weighs_35 rfl kX7_weighs_82 (m_states hs hr hmy hv) rfl rfl (hs _ _ rfl) (by decide) rfl (Nat.le_of_ble_eq_true rfl) ⟨rfl, rfl⟩ ⟨Nat.zero_le _, Nat.zero_le _⟩ ?_
      refine x_ic_ge (t := 140) (q := 41) dX7_weighs_38 rfl rfl (fun c_38 => ?_) (fun c_38 => ?_)
      · skip
        exact absurd c_38 (by omega)
      · skip
        refine x_ic (q := 42) dX7_weighs_41 rfl rfl ?_
        refine x_is4 (q := 44) dX7_weighs_42 rfl rfl ?_
        refine x_ic (q := 45) dX7_weighs_44 rfl rfl ?_
        refine x_is5 (q := 47) dX7_weighs_45 rfl rfl ?_
        refine x_up (S := fun w => Wv g mX7_weighs 0 0 47 [some (aR 70), some (aI l), some (aI 0), some (aI (s : Int)), some (aI (so16 (eT c) (wk (eT c) c.2.2.2.1 (x0l l (nS c)) k) s w)), some (aI (w : Int))] [] (sh, rf, y) (putL (fun u => (∀ s, s < nS c → u 80 s = WT (eT c) c.2.2.2.1 l (nS c) s) ∧ ∀ d, d ≠ 80 → d ≠ 81 → u d = v d) sh rf)) m ?_ ?_ 0 (Nat.zero_le _)
        · skip
          refine x_il (q := 49) dX7_weighs_47 rfl rfl ?_
          refine x_al_n (q := 50) dX7_weighs_49 rfl rfl ?_
          refine x_VI (q := 53) (ci := 7) dX7_weighs_50 rfl kX7_weighs_78 (m_words hs hr hmy hv) rfl rfl (hs _ _ rfl) (by decide) rfl (Nat.le_of_ble_eq_true rfl) ⟨rfl, rfl⟩ ⟨Nat.zero_le _, Nat.zero_le _⟩ ?_
          rw [← hmq]
          refine x_ic_ge (t := 95) (q := 56) dX7_weighs_53 rfl rfl (fun c_53 => ?_) (fun c_53 => ?_)
          · skip
            refine x_il (q := 97) dX7_weighs_95 rfl rfl ?_
            refine x_al_n (q := 98) dX7_weighs_97 rfl rfl ?_
            refine x_getR (q := 101) (o := some (71)) dX7_weighs_98 rfl fX7_7 (hs _ _ rfl) rfl (hr _ _ rfl) ?_
            refine x_ic (q := 102) dX7_weighs_101 rfl rfl ?_
            refine x_ialde (q := 103) (z := c.2.2.2.1) dX7_weighs_102 rfl (hs _ _ rfl) (by omega) (by omega) (hmy.2.2.2.1) ?_
            refine x_shr (q := 104) dX7_weighs_103 rfl (by omega) (by omega) (by omega) ?_
            refine x_is4 (q := 106) dX7_weighs_104 rfl rfl ?_
            refine x_al_n (q := 107) dX7_weighs_106 rfl rfl ?_
            refine x_getR (q := 110) (o := some (81)) dX7_weighs_107 rfl fX7_41 (hs _ _ rfl) rfl (hr _ _ rfl) ?_
            refine x_il_n (q := 111) dX7_weighs_110 rfl rfl ?_
            refine x_il (q := 113) dX7_weighs_111 rfl rfl ?_
            refine x_al_n (q := 114) dX7_weighs_113 rfl rfl ?_
            refine x_getR (q := 117) (o := some (80)) dX7_weighs_114 rfl fX7_38 (hs _ _ rfl) rfl (hr _ _ rfl) ?_
            refine x_il_n (q := 118) dX7_weighs_117 rfl rfl ?_
            refine x_ialde (q := 119) (z := wk (eT c) c.2.2.2.1 (x0l l (nS c)) k s) dX7_weighs_118 rfl (hs _ _ rfl) (by omega) (by omega) (by rw [hy2 80 (by decide), Int.toNat_natCast]; exact hu1 s hsn) ?_
            refine x_ic_ge (t := 127) (q := 122) dX7_weighs_119 rfl rfl (fun c_119 => ?_) (fun c_119 => ?_)
            · skip
              have hX : wk (eT c) c.2.2.2.1 (x0l l (nS c)) k s = wk (eT c) c.2.2.2.1 (x0l l (nS c)) (k + 1) s := by show _ = lsn _ _ _ s; unfold lsn; rw [hsp, if_neg (by omega)]
              refine x_al_n (q := 128) dX7_weighs_127 rfl rfl ?_
              refine x_getR (q := 131) (o := some (80)) dX7_weighs_128 rfl fX7_38 (hs _ _ rfl) rfl (hr _ _ rfl) ?_
              refine x_il_n (q := 132) dX7_weighs_131 rfl rfl ?_
              refine x_ialde (q := 133) (z := wk (eT c) c.2.2.2.1 (x0l l (nS c)) k s) dX7_weighs_132 rfl (hs _ _ rfl) (by omega) (by omega) (by rw [hy2 80 (by decide), Int.toNat_natCast]; exact hu1 s hsn) ?_
              rw [hX]
              refine x_iast (q := 134) dX7_weighs_133 rfl (hs _ _ rfl) (by omega) (by omega) ?_
              rw [Int.toNat_natCast]
              refine x_ii3 (q := 137) dX7_weighs_134 rfl rfl ⟨by omega, by omega⟩ ?_
              refine x_goto (t := 33) dX7_weighs_137 rfl ?_
              refine ihs _ _ _ ⟨fun j hj => ?_, fun d hd => by rw [up_n _ _ _ hd]; exact hy2 d hd⟩
              rw [up_at]
              by_cases he : j = s
              · rw [if_pos he, he]
              · rw [if_neg he]; exact hy1 j (by omega)
            · skip
              have hX : so16 (eT c) (wk (eT c) c.2.2.2.1 (x0l l (nS c)) k) s m / 2 ^ c.2.2.2.1.toNat = wk (eT c) c.2.2.2.1 (x0l l (nS c)) (k + 1) s := by show _ = lsn _ _ _ s; unfold lsn; rw [hsp, if_pos (by omega)]
              refine x_il (q := 124) dX7_weighs_122 rfl rfl ?_
              refine x_goto (t := 133) dX7_weighs_124 rfl ?_
              rw [hX]
              refine x_iast (q := 134) dX7_weighs_133 rfl (hs _ _ rfl) (by omega) (by omega) ?_
              rw [Int.toNat_natCast]
              refine x_ii3 (q := 137) dX7_weighs_134 rfl rfl ⟨by omega, by omega⟩ ?_
              refine x_goto (t := 33) dX7_weighs_137 rfl ?_
              refine ihs _ _ _ ⟨fun j hj => ?_, fun d hd => by rw [up_n _ _ _ hd]; exact hy2 d hd⟩
              rw [up_at]
              by_cases he : j = s
              · rw [if_pos he, he]
              · rw [if_neg he]; exact hy1 j (by omega)
          · skip
            exact absurd (Int.le_refl _) c_53
        · intro w hwm ihw
          have hto := eT_rng hv s w
          have hsr := so16_rng (e := eT c) (hwr k) s w
          have har := atx_rng (hwr k) (eT c s w)
          have hst : so16 (eT c) (wk (eT c) c.2.2.2.1 (x0l l (nS c)) k) s (w + 1) = so16 (eT c) (wk (eT c) c.2.2.2.1 (x0l l (nS c)) k) s w + atx (wk (eT c) c.2.2.2.1 (x0l l (nS c)) k) (eT c s w) := rfl
          refine x_il (q := 49) dX7_weighs_47 rfl rfl ?_
          refine x_al_n (q := 50) dX7_weighs_49 rfl rfl ?_
          refine x_VI (q := 53) (ci := 7) dX7_weighs_50 rfl kX7_weighs_78 (m_words hs hr hmy hv) rfl rfl (hs _ _ rfl) (by decide) rfl (Nat.le_of_ble_eq_true rfl) ⟨rfl, rfl⟩ ⟨Nat.zero_le _, Nat.zero_le _⟩ ?_
          rw [← hmq]
          refine x_ic_ge (t := 95) (q := 56) dX7_weighs_53 rfl rfl (fun c_53 => ?_) (fun c_53 => ?_)
          · skip
            exact absurd c_53 (by omega)
          · skip
            refine x_il (q := 58) dX7_weighs_56 rfl rfl ?_
            refine x_al_n (q := 59) dX7_weighs_58 rfl rfl ?_
            refine x_il_n (q := 60) dX7_weighs_59 rfl rfl ?_
            refine x_il (q := 62) dX7_weighs_60 rfl rfl ?_
            refine x_VI (q := 65) (ci := 7) dX7_weighs_62 rfl kX7_weighs_89 (m_lead hs hr hmy hv (s := s) hLy (by omega) hsn) rfl rfl (hs _ _ rfl) (by decide) rfl (Nat.le_of_ble_eq_true rfl) ⟨rfl, rfl⟩ ⟨Nat.zero_le _, Nat.zero_le _⟩ ?_
            rw [Ex_n (by omega) (by omega)]
            refine x_bi (q := 67) dX7_weighs_65 rfl rfl ?_
            refine x_ic_ne (t := 74) (q := 70) dX7_weighs_67 rfl rfl (fun c_67 => ?_) (fun c_67 => ?_)
            · skip
              have hat : atx (wk (eT c) c.2.2.2.1 (x0l l (nS c)) k) (eT c s w) = wk (eT c) c.2.2.2.1 (x0l l (nS c)) k (eT c s w).toNat := by unfold atx; rw [if_pos (by omega)]
              refine x_al_n (q := 75) dX7_weighs_74 rfl rfl ?_
              refine x_getR (q := 78) (o := some (80)) dX7_weighs_75 rfl fX7_38 (hs _ _ rfl) rfl (hr _ _ rfl) ?_
              refine x_al_n (q := 79) dX7_weighs_78 rfl rfl ?_
              refine x_il_n (q := 80) dX7_weighs_79 rfl rfl ?_
              refine x_il (q := 82) dX7_weighs_80 rfl rfl ?_
              refine x_VI (q := 85) (ci := 7) dX7_weighs_82 rfl kX7_weighs_89 (m_lead hs hr hmy hv (s := s) hLy (by omega) hsn) rfl rfl (hs _ _ rfl) (by decide) rfl (Nat.le_of_ble_eq_true rfl) ⟨rfl, rfl⟩ ⟨Nat.zero_le _, Nat.zero_le _⟩ ?_
              rw [Ex_n (by omega) (by omega)]
              refine x_ialde (q := 86) (z := atx (wk (eT c) c.2.2.2.1 (x0l l (nS c)) k) (eT c s w)) dX7_weighs_85 rfl (hs _ _ rfl) (by omega) (by omega) (by rw [hat, hy2 80 (by decide)]; exact hu1 _ (by omega)) ?_
              refine x_add (q := 87) dX7_weighs_86 rfl ⟨by omega, by omega⟩ ?_
              refine x_is4 (q := 89) dX7_weighs_87 rfl rfl ?_
              refine x_ii5 (q := 92) dX7_weighs_89 rfl rfl ⟨by omega, by omega⟩ ?_
              refine x_goto (t := 47) dX7_weighs_92 rfl ?_
              first | exact ihw | (rw [hst, hat] at ihw; exact ihw)
            · skip
              have hat : atx (wk (eT c) c.2.2.2.1 (x0l l (nS c)) k) (eT c s w) = 0 := by rw [c_67]; unfold atx; rw [if_neg (by omega)]
              refine x_ic (q := 71) dX7_weighs_70 rfl rfl ?_
              refine x_goto (t := 86) dX7_weighs_71 rfl ?_
              refine x_add (q := 87) dX7_weighs_86 rfl ⟨by omega, by omega⟩ ?_
              refine x_is4 (q := 89) dX7_weighs_87 rfl rfl ?_
              refine x_ii5 (q := 92) dX7_weighs_89 rfl rfl ⟨by omega, by omega⟩ ?_
              refine x_goto (t := 47) dX7_weighs_92 rfl ?_
              first | exact ihw | (rw [hst, hat] at ihw; exact ihw)
  obtain ⟨jj, hj, hjj⟩ := wk_ends (e := eT c) (p := c.2.2.2.1) h9
  have ex : ∀ (k : Nat) (y : Nat → Nat → Int) (o3 o4 o5 : Option AV), ((∀ s, s < nS c → y 80 s = wk (eT c) c.2.2.2.1 (x0l l (nS c)) (k + 1) s) ∧ ∀ d, d ≠ 80 → d ≠ 81 → y d = v d) → (∀ s, s < 7 → wk (eT c) c.2.2.2.1 (x0l l (nS c)) (k + 1) s = wk (eT c) c.2.2.2.1 (x0l l (nS c)) k s) → Wv g mX7_weighs 0 0 25 [some (aR 70), some (aI l), some (aI 0), o3, o4, o5] [] (sh, rf, y) (putL (fun u => (∀ s, s < nS c → u 80 s = WT (eT c) c.2.2.2.1 l (nS c) s) ∧ ∀ d, d ≠ 80 → d ≠ 81 → u d = v d) sh rf) := by
    intro k y o3 o4 o5 ⟨hy1, hy2⟩ hfx
    refine x_il_n (q := 26) dX7_weighs_25 rfl rfl ?_
    refine x_if_eq (t := 196) (q := 29) dX7_weighs_26 rfl rfl (fun c_26 => ?_) (fun c_26 => ?_)
    · skip
      exact x_vret dX7_weighs_196 rfl rfl (Nat.zero_le _) (by exact ⟨rfl, y, rfl, fun s hsn => by rw [hy1 s hsn, hfx s (by omega)]; exact wk_64 h9 (.inl hfx) s (by omega), hy2⟩)
    · skip
      exact absurd c_26 (by decide)
  have main : ∀ (u : Nat → Nat → Int) (o3 o4 o5 : Option AV), ((∀ s, s < nS c → u 80 s = wk (eT c) c.2.2.2.1 (x0l l (nS c)) 0 s) ∧ ∀ d, d ≠ 80 → d ≠ 81 → u d = v d) → Wv g mX7_weighs 0 0 25 [some (aR 70), some (aI l), some (aI 1), o3, o4, o5] [] (sh, rf, u) (putL (fun u => (∀ s, s < nS c → u 80 s = WT (eT c) c.2.2.2.1 l (nS c) s) ∧ ∀ d, d ≠ 80 → d ≠ 81 → u d = v d) sh rf) := by
    intro u o3 o4 o5 hu
    refine x_up (S := fun k => ∀ (u : Nat → Nat → Int) (o3 o4 o5 : Option AV), ((∀ s, s < nS c → u 80 s = wk (eT c) c.2.2.2.1 (x0l l (nS c)) k s) ∧ ∀ d, d ≠ 80 → d ≠ 81 → u d = v d) → Wv g mX7_weighs 0 0 25 [some (aR 70), some (aI l), some (aI 1), o3, o4, o5] [] (sh, rf, u) (putL (fun u => (∀ s, s < nS c → u 80 s = WT (eT c) c.2.2.2.1 l (nS c) s) ∧ ∀ d, d ≠ 80 → d ≠ 81 → u d = v d) sh rf)) jj ?_ ?_ 0 (Nat.zero_le _) u o3 o4 o5 hu
    · intro u o3 o4 o5 hu
      refine x_il_n (q := 26) dX7_weighs_25 rfl rfl ?_
      refine x_if_eq (t := 196) (q := 29) dX7_weighs_26 rfl rfl (fun c_26 => ?_) (fun c_26 => ?_)
      · skip
        exact absurd c_26 (by decide)
      · skip
        refine round jj u _ _ _ _ hu (fun y o3 o4 o5 hy => ?_)
        have hz : anyN (fun s => !decide (wk (eT c) c.2.2.2.1 (x0l l (nS c)) (jj + 1) s = wk (eT c) c.2.2.2.1 (x0l l (nS c)) jj s)) (nS c) = false := by
          cases hA : anyN (fun s => !decide (wk (eT c) c.2.2.2.1 (x0l l (nS c)) (jj + 1) s = wk (eT c) c.2.2.2.1 (x0l l (nS c)) jj s)) (nS c) with
          | false => rfl
          | true =>
            obtain ⟨s, s1, s2⟩ := anyN_ex hA
            rw [decide_eq_true (hjj s (by omega))] at s2
            cases s2
        rw [hz]
        exact ex jj y _ _ _ hy hjj
    · intro k hk ih u o3 o4 o5 hu
      refine x_il_n (q := 26) dX7_weighs_25 rfl rfl ?_
      refine x_if_eq (t := 196) (q := 29) dX7_weighs_26 rfl rfl (fun c_26 => ?_) (fun c_26 => ?_)
      · skip
        exact absurd c_26 (by decide)
      · skip
        refine round k u _ _ _ _ hu (fun y o3 o4 o5 hy => ?_)
        cases hA : anyN (fun s => !decide (wk (eT c) c.2.2.2.1 (x0l l (nS c)) (k + 1) s = wk (eT c) c.2.2.2.1 (x0l l (nS c)) k s)) (nS c) with
        | true => exact ih y _ _ _ hy
        | false =>
          refine ex k y _ _ _ hy (fun s hs => ?_)
          by_cases hsn : s < nS c
          · have := anyN_0 hA s hsn; simpa using this
          · rw [wk_out (by omega) hl1 (k + 1) s (by omega), wk_out (by omega) hl1 k s (by omega)]
  refine x_entry (ls := [some (aR 70), some (aI l), none, none, none, none]) rfl rfl (Nat.le_of_ble_eq_true rfl) ?_
  refine x_ic (q := 1) dX7_weighs_0 rfl rfl ?_
  refine x_is2 (q := 2) dX7_weighs_1 rfl rfl ?_
  refine x_up (S := fun s => ∀ u : Nat → Nat → Int, ((∀ j, j < s → u 80 j = l) ∧ ∀ d, d ≠ 80 → u d = v d) → Wv g mX7_weighs 0 0 2 [some (aR 70), some (aI l), some (aI (s : Int)), none, none, none] [] (sh, rf, u) (putL (fun u => (∀ s, s < nS c → u 80 s = WT (eT c) c.2.2.2.1 l (nS c) s) ∧ ∀ d, d ≠ 80 → d ≠ 81 → u d = v d) sh rf)) (nS c) ?_ ?_ 0 (Nat.zero_le _) v ⟨fun j hj => by omega, fun _ _ => rfl⟩
  · intro u ⟨hu1, hu2⟩
    have hmu : CM u c := hm.cong (hu2 71 (by decide))
    refine x_il_n (q := 3) dX7_weighs_2 rfl rfl ?_
    refine x_al_n (q := 4) dX7_weighs_3 rfl rfl ?_
    refine x_VI (q := 7) (ci := 7) dX7_weighs_4 rfl kX7_weighs_82 (m_states hs hr hmu hv) rfl rfl (hs _ _ rfl) (by decide) rfl (Nat.le_of_ble_eq_true rfl) ⟨rfl, rfl⟩ ⟨Nat.zero_le _, Nat.zero_le _⟩ ?_
    refine x_ic_ge (t := 23) (q := 10) dX7_weighs_7 rfl rfl (fun c_7 => ?_) (fun c_7 => ?_)
    · skip
      refine x_ic (q := 24) dX7_weighs_23 rfl rfl ?_
      refine x_is2 (q := 25) dX7_weighs_24 rfl rfl ?_
      exact main u _ _ _ ⟨fun s hsn => by rw [hu1 s hsn]; show l = (if s < nS c then l else 0); rw [if_pos hsn], fun d h1 h2 => hu2 d h1⟩
    · skip
      exact absurd (Int.le_refl _) c_7
  · intro s hsn ih u ⟨hu1, hu2⟩
    have hmu : CM u c := hm.cong (hu2 71 (by decide))
    refine x_il_n (q := 3) dX7_weighs_2 rfl rfl ?_
    refine x_al_n (q := 4) dX7_weighs_3 rfl rfl ?_
    refine x_VI (q := 7) (ci := 7) dX7_weighs_4 rfl kX7_weighs_82 (m_states hs hr hmu hv) rfl rfl (hs _ _ rfl) (by decide) rfl (Nat.le_of_ble_eq_true rfl) ⟨rfl, rfl⟩ ⟨Nat.zero_le _, Nat.zero_le _⟩ ?_
    refine x_ic_ge (t := 23) (q := 10) dX7_weighs_7 rfl rfl (fun c_7 => ?_) (fun c_7 => ?_)
    · skip
      exact absurd c_7 (by omega)
    · skip
      refine x_al_n (q := 11) dX7_weighs_10 rfl rfl ?_
      refine x_getR (q := 14) (o := some (80)) dX7_weighs_11 rfl fX7_38 (hs _ _ rfl) rfl (hr _ _ rfl) ?_
      refine x_il_n (q := 15) dX7_weighs_14 rfl rfl ?_
      refine x_il_n (q := 16) dX7_weighs_15 rfl rfl ?_
      refine x_iast (q := 17) dX7_weighs_16 rfl (hs _ _ rfl) (by omega) (by omega) ?_
      refine x_ii2 (q := 20) dX7_weighs_17 rfl rfl ⟨by omega, by omega⟩ ?_
      refine x_goto (t := 2) dX7_weighs_20 rfl ?_
      rw [Int.toNat_natCast]
      refine ih _ ⟨fun j hj => ?_, fun d hd => by rw [up_n _ _ _ hd]; exact hu2 d hd⟩
      rw [up_at]
      by_cases he : j = s
      · rw [if_pos he]
      · rw [if_neg he]; exact hu1 j (by omega)
set_option maxHeartbeats 4000000 in
set_option maxRecDepth 100000 in
theorem m_weight (hs : ExtM sh) (hr : RokM rf) (hR : RM S v) (hV : SV S) {s l k : Int} : Cv g mX7_weight [aR 70, aI s, aI l, aI k] (sh, rf, v) (sP (a_weight S s l k) sh rf v) := by
  have hm := hR.cm
  have hv := hV.1.1
  have hS := nS_rng hv
  have hd := nd_rng hv
  have hq := pw16 hv.2.2.2.1 hv.2.2.2.2
  have hn24 := hV.1.2.1
  obtain ⟨hvB, hp1, hp2, hq1, hq2⟩ := id hv
  obtain ⟨m, hmq⟩ : ∃ m : Nat, (m : Int) = 2 ^ S.1.1.2.2.2.2.toNat := ⟨2 ^ S.1.1.2.2.2.2.toNat, by simp⟩
  have hnd : nd S.1.1 = 2 ^ S.1.1.2.2.2.1.toNat := rfl
  obtain ⟨a1, a2, a3, ⟨b1, b2, b3, b4⟩, ⟨c1, c2⟩, ⟨d1, d2⟩⟩ := id hR
  refine x_entry (ls := [some (aR 70), some (aI s), some (aI l), some (aI k), none, none]) rfl rfl (Nat.le_of_ble_eq_true rfl) ?_
  refine x_al_n (q := 1) dX7_weight_0 rfl rfl ?_
  refine x_il_n (q := 2) dX7_weight_1 rfl rfl ?_
  refine x_VI (q := 5) (ci := 7) dX7_weight_2 rfl kX7_weight_152 (m_isState hs hr hm hv) rfl rfl (hs _ _ rfl) (by decide) rfl (Nat.le_of_ble_eq_true rfl) ⟨rfl, rfl⟩ ⟨Nat.zero_le _, Nat.zero_le _⟩ ?_
  refine x_if_eq (t := 30) (q := 8) dX7_weight_5 rfl rfl (fun c_5 => ?_) (fun c_5 => ?_)
  · skip
    have e_5 := of_decide_eq_false (b2i_0.mp c_5)
    refine x_ic (q := 31) dX7_weight_30 rfl rfl ?_
    exact x_iret dX7_weight_31 rfl rfl (Nat.zero_le _) ⟨by rw [a_weight, if_pos (by omega)], v, rfl, Sm.refl v⟩
  · skip
    have e_5 := of_decide_eq_true (b2i_n0.mp c_5)
    refine x_il_n (q := 9) dX7_weight_8 rfl rfl ?_
    refine x_i2l (q := 10) dX7_weight_9 rfl ?_
    refine x_lc (q := 11) (z := 1) dX7_weight_10 rfl rfl ?_
    refine x_ldc2 (q := 14) dX7_weight_11 rfl q857 rfl ?_
    refine x_SI (q := 17) dX7_weight_14 rfl kX7_weight_70 (m_in) rfl rfl (Nat.le_of_ble_eq_true rfl) ⟨rfl, rfl⟩ ⟨Nat.zero_le _, Nat.zero_le _⟩ ?_
    refine x_if_eq (t := 30) (q := 20) dX7_weight_17 rfl rfl (fun c_17 => ?_) (fun c_17 => ?_)
    · skip
      have e_17 := of_decide_eq_false (b2i_0.mp c_17)
      refine x_ic (q := 31) dX7_weight_30 rfl rfl ?_
      exact x_iret dX7_weight_31 rfl rfl (Nat.zero_le _) ⟨by rw [a_weight, if_pos (by omega)], v, rfl, Sm.refl v⟩
    · skip
      have e_17 := of_decide_eq_true (b2i_n0.mp c_17)
      refine x_il_n (q := 21) dX7_weight_20 rfl rfl ?_
      refine x_i2l (q := 22) dX7_weight_21 rfl ?_
      refine x_lc (q := 23) (z := 0) dX7_weight_22 rfl rfl ?_
      refine x_lc (q := 24) (z := 1) dX7_weight_23 rfl rfl ?_
      refine x_SI (q := 27) dX7_weight_24 rfl kX7_weight_70 (m_in) rfl rfl (Nat.le_of_ble_eq_true rfl) ⟨rfl, rfl⟩ ⟨Nat.zero_le _, Nat.zero_le _⟩ ?_
      refine x_if_ne (t := 32) (q := 30) dX7_weight_27 rfl rfl (fun c_27 => ?_) (fun c_27 => ?_)
      · skip
        have e_27 := of_decide_eq_true (b2i_n0.mp c_27)
        refine x_al_n (q := 33) dX7_weight_32 rfl rfl ?_
        refine x_V (q := 36) (ci := 7) dX7_weight_33 rfl kX7_weight_56 (m_finds hs hr hm hv) rfl rfl (hs _ _ rfl) (by decide) rfl (Nat.le_of_ble_eq_true rfl) ⟨rfl, rfl⟩ ⟨Nat.zero_le _, Nat.zero_le _⟩ (fun r1 h1 hp => ?_)
        obtain ⟨rfl, u, rfl, hF⟩ := hp
        have hsm := hF.sm
        have hRu := hsm.rm hR
        have hmu := hRu.cm
        have hQ := hF.fq
        obtain ⟨f1, f2, f3, f4⟩ := id hQ
        have f5 := hF.2.2.2.2.1
        obtain ⟨e1, e2, e3, ⟨g1, g2, g3, g4⟩, ⟨h1, h2⟩, ⟨i1, i2⟩⟩ := id hRu
        obtain ⟨s, rfl⟩ := Int.eq_ofNat_of_zero_le (show 0 ≤ s by omega)
        refine x_al_n (q := 37) dX7_weight_36 rfl rfl ?_
        refine x_il_n (q := 38) dX7_weight_37 rfl rfl ?_
        refine x_V (q := 41) (ci := 7) dX7_weight_38 rfl kX7_weight_157 (m_weighs hs hr hmu hv (l := l) f1 (by omega) (by omega)) rfl rfl (hs _ _ rfl) (by decide) rfl (Nat.le_of_ble_eq_true rfl) ⟨rfl, rfl⟩ ⟨Nat.zero_le _, Nat.zero_le _⟩ (fun r1 h1 hp => ?_)
        obtain ⟨rfl, y, rfl, hw1, hw2⟩ := hp
        have hsm2 : Sm v y := hsm.trans (Sm.of (fun d h1 h2 => hw2 d (by omega) (by omega)) (by rw [hw2 70 (by decide) (by decide)]) (by rw [hw2 70 (by decide) (by decide)]) (by rw [hw2 70 (by decide) (by decide)]))
        have hmy : CM y S.1.1 := (hsm2.rm hR).cm
        have hX9 : ∀ s, 0 ≤ (WT (eT S.1.1) S.1.1.2.2.2.1 l (nS S.1.1)) s ∧ (WT (eT S.1.1) S.1.1.2.2.2.1 l (nS S.1.1)) s ≤ 9 := wk_rng (x0l_rng (n := nS S.1.1) (show 0 ≤ l by omega) (by omega)) 64
        refine x_ic (q := 42) dX7_weight_41 rfl rfl ?_
        refine x_is4 (q := 44) dX7_weight_42 rfl rfl ?_
        refine x_ic (q := 45) dX7_weight_44 rfl rfl ?_
        refine x_is5 (q := 47) dX7_weight_45 rfl rfl ?_
        have hts := ts_rng hX9 (nS S.1.1)
        have hxs := hX9 s
        have hatx : atx (WT (eT S.1.1) S.1.1.2.2.2.1 l (nS S.1.1)) (s : Int) = (WT (eT S.1.1) S.1.1.2.2.2.1 l (nS S.1.1)) s := by unfold atx; rw [if_pos (by omega)]; rfl
        have htw : tw (WT (eT S.1.1) S.1.1.2.2.2.1 l (nS S.1.1)) 7 = ts (WT (eT S.1.1) S.1.1.2.2.2.1 l (nS S.1.1)) (nS S.1.1) := by rw [tw_7 (x := (WT (eT S.1.1) S.1.1.2.2.2.1 l (nS S.1.1))) hS.2.1 (fun j hj => wk_out (l := l) (by omega) (by omega) 64 j hj), tw_ts hX9 _ hS.2.1]
        have hA : a_weight S (s : Int) l k = if k = 0 then (WT (eT S.1.1) S.1.1.2.2.2.1 l (nS S.1.1)) s else if ts (WT (eT S.1.1) S.1.1.2.2.2.1 l (nS S.1.1)) (nS S.1.1) = 0 then 0 else 1000 * (WT (eT S.1.1) S.1.1.2.2.2.1 l (nS S.1.1)) s / ts (WT (eT S.1.1) S.1.1.2.2.2.1 l (nS S.1.1)) (nS S.1.1) := by unfold a_weight share; rw [if_neg (by omega), hatx, htw]
        refine x_up (S := fun j => Wv g mX7_weight 0 0 47 [some (aR 70), some (aI (s : Int)), some (aI l), some (aI k), some (aI (ts (WT (eT S.1.1) S.1.1.2.2.2.1 l (nS S.1.1)) j)), some (aI (j : Int))] [] (sh, rf, y) (sP (a_weight S (s : Int) l k) sh rf v)) (nS S.1.1) ?_ ?_ 0 (Nat.zero_le _)
        · skip
          refine x_il (q := 49) dX7_weight_47 rfl rfl ?_
          refine x_al_n (q := 50) dX7_weight_49 rfl rfl ?_
          refine x_VI (q := 53) (ci := 7) dX7_weight_50 rfl kX7_weight_82 (m_states hs hr hmy hv) rfl rfl (hs _ _ rfl) (by decide) rfl (Nat.le_of_ble_eq_true rfl) ⟨rfl, rfl⟩ ⟨Nat.zero_le _, Nat.zero_le _⟩ ?_
          refine x_ic_ge (t := 74) (q := 56) dX7_weight_53 rfl rfl (fun c_53 => ?_) (fun c_53 => ?_)
          · skip
            refine x_il_n (q := 75) dX7_weight_74 rfl rfl ?_
            refine x_if_ne (t := 87) (q := 78) dX7_weight_75 rfl rfl (fun c_75 => ?_) (fun c_75 => ?_)
            · skip
              refine x_il (q := 89) dX7_weight_87 rfl rfl ?_
              refine x_if_ne (t := 96) (q := 92) dX7_weight_89 rfl rfl (fun c_89 => ?_) (fun c_89 => ?_)
              · skip
                refine x_si (q := 99) dX7_weight_96 rfl rfl ?_
                refine x_al_n (q := 100) dX7_weight_99 rfl rfl ?_
                refine x_getR (q := 103) (o := some (80)) dX7_weight_100 rfl fX7_38 (hs _ _ rfl) rfl (hr _ _ rfl) ?_
                refine x_il_n (q := 104) dX7_weight_103 rfl rfl ?_
                refine x_ialde (q := 105) (z := (WT (eT S.1.1) S.1.1.2.2.2.1 l (nS S.1.1)) s) dX7_weight_104 rfl (hs _ _ rfl) (by omega) (by omega) (by rw [Int.toNat_natCast]; exact hw1 s (by omega)) ?_
                refine x_mul (q := 106) dX7_weight_105 rfl ⟨by omega, by omega⟩ ?_
                refine x_il (q := 108) dX7_weight_106 rfl rfl ?_
                refine x_div (q := 109) dX7_weight_108 rfl (by omega) (by omega) ?_
                first
                | exact x_iret dX7_weight_109 rfl rfl (Nat.zero_le _) ⟨by rw [hA, if_pos (by omega)], y, rfl, hsm2⟩
                | exact x_iret dX7_weight_109 rfl rfl (Nat.zero_le _) ⟨by rw [hA, if_neg (by omega), if_pos (by omega)], y, rfl, hsm2⟩
                | exact x_iret dX7_weight_109 rfl rfl (Nat.zero_le _) ⟨by rw [hA, if_neg (by omega), if_neg (by omega)], y, rfl, hsm2⟩
              · skip
                refine x_ic (q := 93) dX7_weight_92 rfl rfl ?_
                refine x_goto (t := 109) dX7_weight_93 rfl ?_
                first
                | exact x_iret dX7_weight_109 rfl rfl (Nat.zero_le _) ⟨by rw [hA, if_pos (by omega)], y, rfl, hsm2⟩
                | exact x_iret dX7_weight_109 rfl rfl (Nat.zero_le _) ⟨by rw [hA, if_neg (by omega), if_pos (by omega)], y, rfl, hsm2⟩
                | exact x_iret dX7_weight_109 rfl rfl (Nat.zero_le _) ⟨by rw [hA, if_neg (by omega), if_neg (by omega)], y, rfl, hsm2⟩
            · skip
              refine x_al_n (q := 79) dX7_weight_78 rfl rfl ?_
              refine x_getR (q := 82) (o := some (80)) dX7_weight_79 rfl fX7_38 (hs _ _ rfl) rfl (hr _ _ rfl) ?_
              refine x_il_n (q := 83) dX7_weight_82 rfl rfl ?_
              refine x_ialde (q := 84) (z := (WT (eT S.1.1) S.1.1.2.2.2.1 l (nS S.1.1)) s) dX7_weight_83 rfl (hs _ _ rfl) (by omega) (by omega) (by rw [Int.toNat_natCast]; exact hw1 s (by omega)) ?_
              refine x_goto (t := 109) dX7_weight_84 rfl ?_
              first
              | exact x_iret dX7_weight_109 rfl rfl (Nat.zero_le _) ⟨by rw [hA, if_pos (by omega)], y, rfl, hsm2⟩
              | exact x_iret dX7_weight_109 rfl rfl (Nat.zero_le _) ⟨by rw [hA, if_neg (by omega), if_pos (by omega)], y, rfl, hsm2⟩
              | exact x_iret dX7_weight_109 rfl rfl (Nat.zero_le _) ⟨by rw [hA, if_neg (by omega), if_neg (by omega)], y, rfl, hsm2⟩
          · skip
            exact absurd (Int.le_refl _) c_53
        · intro j hj ih
          have htj := ts_rng hX9 j
          have hxj := hX9 j
          refine x_il (q := 49) dX7_weight_47 rfl rfl ?_
          refine x_al_n (q := 50) dX7_weight_49 rfl rfl ?_
          refine x_VI (q := 53) (ci := 7) dX7_weight_50 rfl kX7_weight_82 (m_states hs hr hmy hv) rfl rfl (hs _ _ rfl) (by decide) rfl (Nat.le_of_ble_eq_true rfl) ⟨rfl, rfl⟩ ⟨Nat.zero_le _, Nat.zero_le _⟩ ?_
          refine x_ic_ge (t := 74) (q := 56) dX7_weight_53 rfl rfl (fun c_53 => ?_) (fun c_53 => ?_)
          · skip
            exact absurd c_53 (by omega)
          · skip
            refine x_il (q := 58) dX7_weight_56 rfl rfl ?_
            refine x_al_n (q := 59) dX7_weight_58 rfl rfl ?_
            refine x_getR (q := 62) (o := some (80)) dX7_weight_59 rfl fX7_38 (hs _ _ rfl) rfl (hr _ _ rfl) ?_
            refine x_il (q := 64) dX7_weight_62 rfl rfl ?_
            refine x_ialde (q := 65) (z := (WT (eT S.1.1) S.1.1.2.2.2.1 l (nS S.1.1)) j) dX7_weight_64 rfl (hs _ _ rfl) (by omega) (by omega) (by rw [Int.toNat_natCast]; exact hw1 j (by omega)) ?_
            refine x_add (q := 66) dX7_weight_65 rfl ⟨by omega, by omega⟩ ?_
            refine x_is4 (q := 68) dX7_weight_66 rfl rfl ?_
            refine x_ii5 (q := 71) dX7_weight_68 rfl rfl ⟨by omega, by omega⟩ ?_
            refine x_goto (t := 47) dX7_weight_71 rfl ?_
            exact ih
      · skip
        have e_27 := of_decide_eq_false (b2i_0.mp c_27)
        refine x_ic (q := 31) dX7_weight_30 rfl rfl ?_
        exact x_iret dX7_weight_31 rfl rfl (Nat.zero_le _) ⟨by rw [a_weight, if_pos (by omega)], v, rfl, Sm.refl v⟩
set_option maxHeartbeats 4000000 in
set_option maxRecDepth 100000 in
theorem m_rows (hs : ExtM sh) (hr : RokM rf) (hR : RM S v) (hV : SV S) {n : Int} : Cv g mX7_rows [aR 70, aI n] (sh, rf, v) (sP (a_rows S n) sh rf v) := by
  have hm := hR.cm
  have hv := hV.1.1
  have hS := nS_rng hv
  have hd := nd_rng hv
  have hq := pw16 hv.2.2.2.1 hv.2.2.2.2
  have hn24 := hV.1.2.1
  obtain ⟨hvB, hp1, hp2, hq1, hq2⟩ := id hv
  obtain ⟨m, hmq⟩ : ∃ m : Nat, (m : Int) = 2 ^ S.1.1.2.2.2.2.toNat := ⟨2 ^ S.1.1.2.2.2.2.toNat, by simp⟩
  have hnd : nd S.1.1 = 2 ^ S.1.1.2.2.2.1.toNat := rfl
  obtain ⟨a1, a2, a3, ⟨b1, b2, b3, b4⟩, ⟨c1, c2⟩, ⟨d1, d2⟩⟩ := id hR
  refine x_entry (ls := [some (aR 70), some (aI n), none, none, none]) rfl rfl (Nat.le_of_ble_eq_true rfl) ?_
  refine x_il_n (q := 1) dX7_rows_0 rfl rfl ?_
  refine x_i2l (q := 2) dX7_rows_1 rfl ?_
  refine x_lc (q := 3) (z := 0) dX7_rows_2 rfl rfl ?_
  refine x_ldc2 (q := 6) dX7_rows_3 rfl q866 rfl ?_
  refine x_SI (q := 9) dX7_rows_6 rfl kX7_rows_70 (m_in) rfl rfl (Nat.le_of_ble_eq_true rfl) ⟨rfl, rfl⟩ ⟨Nat.zero_le _, Nat.zero_le _⟩ ?_
  refine x_if_ne (t := 14) (q := 12) dX7_rows_9 rfl rfl (fun c_9 => ?_) (fun c_9 => ?_)
  · skip
    have e_9 := of_decide_eq_true (b2i_n0.mp c_9)
    refine x_ic (q := 15) dX7_rows_14 rfl rfl ?_
    refine x_is2 (q := 16) dX7_rows_15 rfl rfl ?_
    have hA : a_rows S n = rowsN S.1.1.1 S.1.1.2.1 S.1.1.2.2.1 n.toNat := by unfold a_rows; rw [if_neg (by omega)]
    rw [hA]
    obtain ⟨n, rfl⟩ := Int.eq_ofNat_of_zero_le (show 0 ≤ n by omega)
    rw [Int.toNat_natCast]
    refine x_up (S := fun s => ∀ u : Nat → Nat → Int, ((∀ y, y < s → u 82 y = RW S.1.1.1 S.1.1.2.1 S.1.1.2.2.1 0 y) ∧ ∀ d, d ≠ 82 → d ≠ 83 → u d = v d) → Wv g mX7_rows 0 0 16 [some (aR 70), some (aI (n : Int)), some (aI (s : Int)), none, none] [] (sh, rf, u) (sP (rowsN S.1.1.1 S.1.1.2.1 S.1.1.2.2.1 n) sh rf v)) (nS S.1.1) ?_ ?_ 0 (Nat.zero_le _) v ⟨fun y hy => by omega, fun _ _ _ => rfl⟩
    · intro u ⟨hu1, hu2⟩
      have hmu : CM u S.1.1 := hm.cong (hu2 71 (by decide) (by decide))
      refine x_il_n (q := 17) dX7_rows_16 rfl rfl ?_
      refine x_al_n (q := 18) dX7_rows_17 rfl rfl ?_
      refine x_VI (q := 21) (ci := 7) dX7_rows_18 rfl kX7_rows_82 (m_states hs hr hmu hv) rfl rfl (hs _ _ rfl) (by decide) rfl (Nat.le_of_ble_eq_true rfl) ⟨rfl, rfl⟩ ⟨Nat.zero_le _, Nat.zero_le _⟩ ?_
      refine x_ic_ge (t := 49) (q := 24) dX7_rows_21 rfl rfl (fun c_21 => ?_) (fun c_21 => ?_)
      · skip
        refine x_ic (q := 50) dX7_rows_49 rfl rfl ?_
        refine x_is2 (q := 51) dX7_rows_50 rfl rfl ?_
        refine x_up (S := fun k => ∀ (u : Nat → Nat → Int) (o3 o4 : Option AV), ((∀ y, y < nS S.1.1 → u 82 y = RW S.1.1.1 S.1.1.2.1 S.1.1.2.2.1 k y) ∧ ∀ d, d ≠ 82 → d ≠ 83 → u d = v d) → Wv g mX7_rows 0 0 51 [some (aR 70), some (aI (n : Int)), some (aI (k : Int)), o3, o4] [] (sh, rf, u) (sP (rowsN S.1.1.1 S.1.1.2.1 S.1.1.2.2.1 n) sh rf v)) n ?_ ?_ 0 (Nat.zero_le _) u none none ⟨hu1, hu2⟩
        · intro u o3 o4 ⟨hu1, hu2⟩
          have hmu : CM u S.1.1 := hm.cong (hu2 71 (by decide) (by decide))
          refine x_il_n (q := 52) dX7_rows_51 rfl rfl ?_
          refine x_il_n (q := 53) dX7_rows_52 rfl rfl ?_
          refine x_ic_ge (t := 168) (q := 56) dX7_rows_53 rfl rfl (fun c_53 => ?_) (fun c_53 => ?_)
          · skip
            refine x_ic (q := 169) dX7_rows_168 rfl rfl ?_
            refine x_is2 (q := 170) dX7_rows_169 rfl rfl ?_
            refine x_ic (q := 171) dX7_rows_170 rfl rfl ?_
            refine x_is3 (q := 172) dX7_rows_171 rfl rfl ?_
            refine x_up (S := fun s => Wv g mX7_rows 0 0 172 [some (aR 70), some (aI (n : Int)), some (aI (tw (RW S.1.1.1 S.1.1.2.1 S.1.1.2.2.1 n) s)), some (aI (s : Int)), o4] [] (sh, rf, u) (sP (rowsN S.1.1.1 S.1.1.2.1 S.1.1.2.2.1 n) sh rf v)) (nS S.1.1) ?_ ?_ 0 (Nat.zero_le _)
            · skip
              refine x_il_n (q := 173) dX7_rows_172 rfl rfl ?_
              refine x_al_n (q := 174) dX7_rows_173 rfl rfl ?_
              refine x_VI (q := 177) (ci := 7) dX7_rows_174 rfl kX7_rows_82 (m_states hs hr hmu hv) rfl rfl (hs _ _ rfl) (by decide) rfl (Nat.le_of_ble_eq_true rfl) ⟨rfl, rfl⟩ ⟨Nat.zero_le _, Nat.zero_le _⟩ ?_
              refine x_ic_ge (t := 195) (q := 180) dX7_rows_177 rfl rfl (fun c_177 => ?_) (fun c_177 => ?_)
              · skip
                refine x_il_n (q := 196) dX7_rows_195 rfl rfl ?_
                exact x_iret dX7_rows_196 rfl rfl (Nat.zero_le _) ⟨rfl, u, rfl, Sm.of (fun d h1 h2 => hu2 d (by omega) (by omega)) (by rw [hu2 70 (by decide) (by decide)]) (by rw [hu2 70 (by decide) (by decide)]) (by rw [hu2 70 (by decide) (by decide)])⟩
              · skip
                exact absurd (Int.le_refl _) c_177
            · intro s hsn ih
              refine x_il_n (q := 173) dX7_rows_172 rfl rfl ?_
              refine x_al_n (q := 174) dX7_rows_173 rfl rfl ?_
              refine x_VI (q := 177) (ci := 7) dX7_rows_174 rfl kX7_rows_82 (m_states hs hr hmu hv) rfl rfl (hs _ _ rfl) (by decide) rfl (Nat.le_of_ble_eq_true rfl) ⟨rfl, rfl⟩ ⟨Nat.zero_le _, Nat.zero_le _⟩ ?_
              refine x_ic_ge (t := 195) (q := 180) dX7_rows_177 rfl rfl (fun c_177 => ?_) (fun c_177 => ?_)
              · skip
                exact absurd c_177 (by omega)
              · skip
                refine x_il_n (q := 181) dX7_rows_180 rfl rfl ?_
                refine x_al_n (q := 182) dX7_rows_181 rfl rfl ?_
                refine x_getR (q := 185) (o := some (82)) dX7_rows_182 rfl fX7_44 (hs _ _ rfl) rfl (hr _ _ rfl) ?_
                refine x_il_n (q := 186) dX7_rows_185 rfl rfl ?_
                refine x_ialde (q := 187) (z := RW S.1.1.1 S.1.1.2.1 S.1.1.2.2.1 n s) dX7_rows_186 rfl (hs _ _ rfl) (by omega) (by omega) (by rw [Int.toNat_natCast]; exact hu1 s hsn) ?_
                refine x_addw (q := 188) dX7_rows_187 rfl ?_
                refine x_is2 (q := 189) dX7_rows_188 rfl rfl ?_
                refine x_ii3 (q := 192) dX7_rows_189 rfl rfl ⟨by omega, by omega⟩ ?_
                refine x_goto (t := 172) dX7_rows_192 rfl ?_
                exact ih
          · skip
            exact absurd (Int.le_refl _) c_53
        · intro k hk ihk u o3 o4 ⟨hu1, hu2⟩
          have hmu : CM u S.1.1 := hm.cong (hu2 71 (by decide) (by decide))
          refine x_il_n (q := 52) dX7_rows_51 rfl rfl ?_
          refine x_il_n (q := 53) dX7_rows_52 rfl rfl ?_
          refine x_ic_ge (t := 168) (q := 56) dX7_rows_53 rfl rfl (fun c_53 => ?_) (fun c_53 => ?_)
          · skip
            exact absurd c_53 (by omega)
          · skip
            refine x_ic (q := 57) dX7_rows_56 rfl rfl ?_
            refine x_is3 (q := 58) dX7_rows_57 rfl rfl ?_
            refine x_up (S := fun s => ∀ u : Nat → Nat → Int, ((∀ y, y < s → u 83 y = 0) ∧ (∀ y, y < nS S.1.1 → u 82 y = RW S.1.1.1 S.1.1.2.1 S.1.1.2.2.1 k y) ∧ ∀ d, d ≠ 82 → d ≠ 83 → u d = v d) → Wv g mX7_rows 0 0 58 [some (aR 70), some (aI (n : Int)), some (aI (k : Int)), some (aI (s : Int)), o4] [] (sh, rf, u) (sP (rowsN S.1.1.1 S.1.1.2.1 S.1.1.2.2.1 n) sh rf v)) (nS S.1.1) ?_ ?_ 0 (Nat.zero_le _) u ⟨fun y hy => by omega, hu1, hu2⟩
            · intro u ⟨hu1, hu3, hu2⟩
              have hmu : CM u S.1.1 := hm.cong (hu2 71 (by decide) (by decide))
              refine x_il_n (q := 59) dX7_rows_58 rfl rfl ?_
              refine x_al_n (q := 60) dX7_rows_59 rfl rfl ?_
              refine x_VI (q := 63) (ci := 7) dX7_rows_60 rfl kX7_rows_82 (m_states hs hr hmu hv) rfl rfl (hs _ _ rfl) (by decide) rfl (Nat.le_of_ble_eq_true rfl) ⟨rfl, rfl⟩ ⟨Nat.zero_le _, Nat.zero_le _⟩ ?_
              refine x_ic_ge (t := 79) (q := 66) dX7_rows_63 rfl rfl (fun c_63 => ?_) (fun c_63 => ?_)
              · skip
                refine x_ic (q := 80) dX7_rows_79 rfl rfl ?_
                refine x_is3 (q := 81) dX7_rows_80 rfl rfl ?_
                refine x_up (S := fun j => ∀ (u : Nat → Nat → Int) (o4 : Option AV), ((∀ y, y < nS S.1.1 → u 83 y = lr S.1.1.1 S.1.1.2.1 S.1.1.2.2.1 (RW S.1.1.1 S.1.1.2.1 S.1.1.2.2.1 k) (j) y) ∧ (∀ y, y < nS S.1.1 → u 82 y = RW S.1.1.1 S.1.1.2.1 S.1.1.2.2.1 k y) ∧ ∀ d, d ≠ 82 → d ≠ 83 → u d = v d) → Wv g mX7_rows 0 0 81 [some (aR 70), some (aI (n : Int)), some (aI (k : Int)), some (aI (j : Int)), o4] [] (sh, rf, u) (sP (rowsN S.1.1.1 S.1.1.2.1 S.1.1.2.2.1 n) sh rf v)) (2 * nS S.1.1) ?_ ?_ 0 (Nat.zero_le _) u _ ⟨fun y hy => hu1 y hy, hu3, hu2⟩
                · intro u o4 ⟨hu1, hu3, hu2⟩
                  have hmu : CM u S.1.1 := hm.cong (hu2 71 (by decide) (by decide))
                  refine x_il_n (q := 82) dX7_rows_81 rfl rfl ?_
                  refine x_ic (q := 83) dX7_rows_82 rfl rfl ?_
                  refine x_al_n (q := 84) dX7_rows_83 rfl rfl ?_
                  refine x_VI (q := 87) (ci := 7) dX7_rows_84 rfl kX7_rows_82 (m_states hs hr hmu hv) rfl rfl (hs _ _ rfl) (by decide) rfl (Nat.le_of_ble_eq_true rfl) ⟨rfl, rfl⟩ ⟨Nat.zero_le _, Nat.zero_le _⟩ ?_
                  refine x_mul (q := 88) dX7_rows_87 rfl ⟨by omega, by omega⟩ ?_
                  refine x_ic_ge (t := 134) (q := 91) dX7_rows_88 rfl rfl (fun c_88 => ?_) (fun c_88 => ?_)
                  · skip
                    refine x_ic (q := 135) dX7_rows_134 rfl rfl ?_
                    refine x_is3 (q := 136) dX7_rows_135 rfl rfl ?_
                    refine x_up (S := fun s => ∀ u : Nat → Nat → Int, ((∀ y, y < nS S.1.1 → u 83 y = lr S.1.1.1 S.1.1.2.1 S.1.1.2.2.1 (RW S.1.1.1 S.1.1.2.1 S.1.1.2.2.1 k) (2 * nS S.1.1) y) ∧ (∀ y, y < s → u 82 y = RW S.1.1.1 S.1.1.2.1 S.1.1.2.2.1 (k + 1) y) ∧ ∀ d, d ≠ 82 → d ≠ 83 → u d = v d) → Wv g mX7_rows 0 0 136 [some (aR 70), some (aI (n : Int)), some (aI (k : Int)), some (aI (s : Int)), o4] [] (sh, rf, u) (sP (rowsN S.1.1.1 S.1.1.2.1 S.1.1.2.2.1 n) sh rf v)) (nS S.1.1) ?_ ?_ 0 (Nat.zero_le _) u ⟨hu1, fun y hy => by omega, hu2⟩
                    · intro u ⟨hu1, hu3, hu2⟩
                      have hmu : CM u S.1.1 := hm.cong (hu2 71 (by decide) (by decide))
                      refine x_il_n (q := 137) dX7_rows_136 rfl rfl ?_
                      refine x_al_n (q := 138) dX7_rows_137 rfl rfl ?_
                      refine x_VI (q := 141) (ci := 7) dX7_rows_138 rfl kX7_rows_82 (m_states hs hr hmu hv) rfl rfl (hs _ _ rfl) (by decide) rfl (Nat.le_of_ble_eq_true rfl) ⟨rfl, rfl⟩ ⟨Nat.zero_le _, Nat.zero_le _⟩ ?_
                      refine x_ic_ge (t := 162) (q := 144) dX7_rows_141 rfl rfl (fun c_141 => ?_) (fun c_141 => ?_)
                      · skip
                        refine x_ii2 (q := 165) dX7_rows_162 rfl rfl ⟨by omega, by omega⟩ ?_
                        refine x_goto (t := 51) dX7_rows_165 rfl ?_
                        exact ihk u _ _ ⟨hu3, hu2⟩
                      · skip
                        exact absurd (Int.le_refl _) c_141
                    · intro s hsn ih u ⟨hu1, hu3, hu2⟩
                      have hmu : CM u S.1.1 := hm.cong (hu2 71 (by decide) (by decide))
                      refine x_il_n (q := 137) dX7_rows_136 rfl rfl ?_
                      refine x_al_n (q := 138) dX7_rows_137 rfl rfl ?_
                      refine x_VI (q := 141) (ci := 7) dX7_rows_138 rfl kX7_rows_82 (m_states hs hr hmu hv) rfl rfl (hs _ _ rfl) (by decide) rfl (Nat.le_of_ble_eq_true rfl) ⟨rfl, rfl⟩ ⟨Nat.zero_le _, Nat.zero_le _⟩ ?_
                      refine x_ic_ge (t := 162) (q := 144) dX7_rows_141 rfl rfl (fun c_141 => ?_) (fun c_141 => ?_)
                      · skip
                        exact absurd c_141 (by omega)
                      · skip
                        refine x_al_n (q := 145) dX7_rows_144 rfl rfl ?_
                        refine x_getR (q := 148) (o := some (82)) dX7_rows_145 rfl fX7_44 (hs _ _ rfl) rfl (hr _ _ rfl) ?_
                        refine x_il_n (q := 149) dX7_rows_148 rfl rfl ?_
                        refine x_al_n (q := 150) dX7_rows_149 rfl rfl ?_
                        refine x_getR (q := 153) (o := some (83)) dX7_rows_150 rfl fX7_47 (hs _ _ rfl) rfl (hr _ _ rfl) ?_
                        refine x_il_n (q := 154) dX7_rows_153 rfl rfl ?_
                        refine x_ialde (q := 155) (z := RW S.1.1.1 S.1.1.2.1 S.1.1.2.2.1 (k + 1) s) dX7_rows_154 rfl (hs _ _ rfl) (by omega) (by omega) (by rw [Int.toNat_natCast]; exact hu1 s hsn) ?_
                        refine x_iast (q := 156) dX7_rows_155 rfl (hs _ _ rfl) (by omega) (by omega) ?_
                        refine x_ii3 (q := 159) dX7_rows_156 rfl rfl ⟨by omega, by omega⟩ ?_
                        refine x_goto (t := 136) dX7_rows_159 rfl ?_
                        rw [Int.toNat_natCast]
                        refine ih _ ⟨fun y hy => by rw [up_n _ _ _ (by decide)]; exact hu1 y hy, fun y hy => ?_, fun d h1 h2 => by rw [up_n _ _ _ h1]; exact hu2 d h1 h2⟩
                        rw [up_at]
                        by_cases he : y = s
                        · rw [if_pos he, he]
                        · rw [if_neg he]; exact hu3 y (by omega)
                  · skip
                    exact absurd (by omega) c_88
                · intro j hj ih u o4 ⟨hu1, hu3, hu2⟩
                  have hmu : CM u S.1.1 := hm.cong (hu2 71 (by decide) (by decide))
                  have hr0 := stp_rng (s := ((j / 2 : Nat) : Int)) (b := ((j % 2 : Nat) : Int)) hvB (by omega) (by omega)
                  have hj2 : j / 2 < nS S.1.1 := by omega
                  refine x_il_n (q := 82) dX7_rows_81 rfl rfl ?_
                  refine x_ic (q := 83) dX7_rows_82 rfl rfl ?_
                  refine x_al_n (q := 84) dX7_rows_83 rfl rfl ?_
                  refine x_VI (q := 87) (ci := 7) dX7_rows_84 rfl kX7_rows_82 (m_states hs hr hmu hv) rfl rfl (hs _ _ rfl) (by decide) rfl (Nat.le_of_ble_eq_true rfl) ⟨rfl, rfl⟩ ⟨Nat.zero_le _, Nat.zero_le _⟩ ?_
                  refine x_mul (q := 88) dX7_rows_87 rfl ⟨by omega, by omega⟩ ?_
                  refine x_ic_ge (t := 134) (q := 91) dX7_rows_88 rfl rfl (fun c_88 => ?_) (fun c_88 => ?_)
                  · skip
                    exact absurd c_88 (by omega)
                  · skip
                    refine x_al_n (q := 92) dX7_rows_91 rfl rfl ?_
                    refine x_il_n (q := 93) dX7_rows_92 rfl rfl ?_
                    refine x_ic (q := 94) dX7_rows_93 rfl rfl ?_
                    refine x_div (q := 95) dX7_rows_94 rfl (by omega) (by decide) ?_
                    rw [show (j : Int) / 2 = ((j / 2 : Nat) : Int) by omega]
                    refine x_il_n (q := 96) dX7_rows_95 rfl rfl ?_
                    refine x_ic (q := 97) dX7_rows_96 rfl rfl ?_
                    refine x_rem (q := 98) dX7_rows_97 rfl (by omega) (by decide) ?_
                    rw [show (j : Int) % 2 = ((j % 2 : Nat) : Int) by omega]
                    refine x_VI (q := 101) (ci := 7) dX7_rows_98 rfl kX7_rows_85 (m_stepOf hs hr hmu hv (s := ((j / 2 : Nat) : Int)) (b := ((j % 2 : Nat) : Int)) (by omega) (by omega) (by omega)) rfl rfl (hs _ _ rfl) (by decide) rfl (Nat.le_of_ble_eq_true rfl) ⟨rfl, rfl⟩ ⟨Nat.zero_le _, Nat.zero_le _⟩ ?_
                    refine x_is4 (q := 103) dX7_rows_101 rfl rfl ?_
                    refine x_il (q := 105) dX7_rows_103 rfl rfl ?_
                    refine x_bi (q := 107) dX7_rows_105 rfl rfl ?_
                    refine x_ic_eq (t := 128) (q := 110) dX7_rows_107 rfl rfl (fun c_107 => ?_) (fun c_107 => ?_)
                    · skip
                      have hJ : lr S.1.1.1 S.1.1.2.1 S.1.1.2.2.1 (RW S.1.1.1 S.1.1.2.1 S.1.1.2.2.1 k) (j + 1) = lr S.1.1.1 S.1.1.2.1 S.1.1.2.2.1 (RW S.1.1.1 S.1.1.2.1 S.1.1.2.2.1 k) (j) := by show (if _ = -9 then _ else _) = _; rw [if_pos c_107]
                      have ih := ih u (some (aI (stp S.1.1.1 S.1.1.2.1 S.1.1.2.2.1 ((j / 2 : Nat) : Int) ((j % 2 : Nat) : Int)))) ⟨fun y hy => by rw [hJ]; exact hu1 y hy, hu3, hu2⟩
                      refine x_ii3 (q := 131) dX7_rows_128 rfl rfl ⟨by omega, by omega⟩ ?_
                      refine x_goto (t := 81) dX7_rows_131 rfl ?_
                      exact ih
                    · skip
                      have hJ : lr S.1.1.1 S.1.1.2.1 S.1.1.2.2.1 (RW S.1.1.1 S.1.1.2.1 S.1.1.2.2.1 k) (j + 1) = upx (lr S.1.1.1 S.1.1.2.1 S.1.1.2.2.1 (RW S.1.1.1 S.1.1.2.1 S.1.1.2.2.1 k) (j)) (stp S.1.1.1 S.1.1.2.1 S.1.1.2.2.1 ((j / 2 : Nat) : Int) ((j % 2 : Nat) : Int)).toNat (wr (lr S.1.1.1 S.1.1.2.1 S.1.1.2.2.1 (RW S.1.1.1 S.1.1.2.1 S.1.1.2.2.1 k) (j) (stp S.1.1.1 S.1.1.2.1 S.1.1.2.2.1 ((j / 2 : Nat) : Int) ((j % 2 : Nat) : Int)).toNat + RW S.1.1.1 S.1.1.2.1 S.1.1.2.2.1 k (j / 2))) := by show (if _ = -9 then _ else _) = _; rw [if_neg c_107]
                      have ih := ih (up u 83 (stp S.1.1.1 S.1.1.2.1 S.1.1.2.2.1 ((j / 2 : Nat) : Int) ((j % 2 : Nat) : Int)).toNat (wr (lr S.1.1.1 S.1.1.2.1 S.1.1.2.2.1 (RW S.1.1.1 S.1.1.2.1 S.1.1.2.2.1 k) (j) (stp S.1.1.1 S.1.1.2.1 S.1.1.2.2.1 ((j / 2 : Nat) : Int) ((j % 2 : Nat) : Int)).toNat + RW S.1.1.1 S.1.1.2.1 S.1.1.2.2.1 k (j / 2)))) (some (aI (stp S.1.1.1 S.1.1.2.1 S.1.1.2.2.1 ((j / 2 : Nat) : Int) ((j % 2 : Nat) : Int)))) ⟨fun y hy => by
                        rw [hJ, up_at]
                        unfold upx
                        split
                        · rfl
                        · exact hu1 y hy, fun y hy => by rw [up_n _ _ _ (by decide)]; exact hu3 y hy, fun d h1 h2 => by rw [up_n _ _ _ h2]; exact hu2 d h1 h2⟩
                      refine x_al_n (q := 111) dX7_rows_110 rfl rfl ?_
                      refine x_getR (q := 114) (o := some (83)) dX7_rows_111 rfl fX7_47 (hs _ _ rfl) rfl (hr _ _ rfl) ?_
                      refine x_il (q := 116) dX7_rows_114 rfl rfl ?_
                      refine x_dup2 (q := 117) dX7_rows_116 rfl rfl rfl ?_
                      refine x_ialde (q := 118) (z := lr S.1.1.1 S.1.1.2.1 S.1.1.2.2.1 (RW S.1.1.1 S.1.1.2.1 S.1.1.2.2.1 k) (j) (stp S.1.1.1 S.1.1.2.1 S.1.1.2.2.1 ((j / 2 : Nat) : Int) ((j % 2 : Nat) : Int)).toNat) dX7_rows_117 rfl (hs _ _ rfl) (by omega) (by omega) (hu1 _ (by omega)) ?_
                      refine x_al_n (q := 119) dX7_rows_118 rfl rfl ?_
                      refine x_getR (q := 122) (o := some (82)) dX7_rows_119 rfl fX7_44 (hs _ _ rfl) rfl (hr _ _ rfl) ?_
                      refine x_il_n (q := 123) dX7_rows_122 rfl rfl ?_
                      refine x_ic (q := 124) dX7_rows_123 rfl rfl ?_
                      refine x_div (q := 125) dX7_rows_124 rfl (by omega) (by decide) ?_
                      rw [show (j : Int) / 2 = ((j / 2 : Nat) : Int) by omega]
                      refine x_ialde (q := 126) (z := RW S.1.1.1 S.1.1.2.1 S.1.1.2.2.1 k (j / 2)) dX7_rows_125 rfl (hs _ _ rfl) (by omega) (by omega) (by rw [Int.toNat_natCast]; exact hu3 _ hj2) ?_
                      refine x_addw (q := 127) dX7_rows_126 rfl ?_
                      refine x_iast (q := 128) dX7_rows_127 rfl (hs _ _ rfl) (by omega) (by omega) ?_
                      refine x_ii3 (q := 131) dX7_rows_128 rfl rfl ⟨by omega, by omega⟩ ?_
                      refine x_goto (t := 81) dX7_rows_131 rfl ?_
                      exact ih
              · skip
                exact absurd (Int.le_refl _) c_63
            · intro s hsn ih u ⟨hu1, hu3, hu2⟩
              have hmu : CM u S.1.1 := hm.cong (hu2 71 (by decide) (by decide))
              refine x_il_n (q := 59) dX7_rows_58 rfl rfl ?_
              refine x_al_n (q := 60) dX7_rows_59 rfl rfl ?_
              refine x_VI (q := 63) (ci := 7) dX7_rows_60 rfl kX7_rows_82 (m_states hs hr hmu hv) rfl rfl (hs _ _ rfl) (by decide) rfl (Nat.le_of_ble_eq_true rfl) ⟨rfl, rfl⟩ ⟨Nat.zero_le _, Nat.zero_le _⟩ ?_
              refine x_ic_ge (t := 79) (q := 66) dX7_rows_63 rfl rfl (fun c_63 => ?_) (fun c_63 => ?_)
              · skip
                exact absurd c_63 (by omega)
              · skip
                refine x_al_n (q := 67) dX7_rows_66 rfl rfl ?_
                refine x_getR (q := 70) (o := some (83)) dX7_rows_67 rfl fX7_47 (hs _ _ rfl) rfl (hr _ _ rfl) ?_
                refine x_il_n (q := 71) dX7_rows_70 rfl rfl ?_
                refine x_ic (q := 72) dX7_rows_71 rfl rfl ?_
                refine x_iast (q := 73) dX7_rows_72 rfl (hs _ _ rfl) (by omega) (by omega) ?_
                refine x_ii3 (q := 76) dX7_rows_73 rfl rfl ⟨by omega, by omega⟩ ?_
                refine x_goto (t := 58) dX7_rows_76 rfl ?_
                rw [Int.toNat_natCast]
                refine ih _ ⟨fun y hy => ?_, fun y hy => by rw [up_n _ _ _ (by decide)]; exact hu3 y hy, fun d h1 h2 => by rw [up_n _ _ _ h2]; exact hu2 d h1 h2⟩
                rw [up_at]
                by_cases he : y = s
                · rw [if_pos he]
                · rw [if_neg he]; exact hu1 y (by omega)
      · skip
        exact absurd (Int.le_refl _) c_21
    · intro s hsn ih u ⟨hu1, hu2⟩
      have hmu : CM u S.1.1 := hm.cong (hu2 71 (by decide) (by decide))
      have hR0 : RW S.1.1.1 S.1.1.2.1 S.1.1.2.2.1 0 s = if (s : Int) = stt S.1.1.1 S.1.1.2.1 then 1 else 0 := rfl
      refine x_il_n (q := 17) dX7_rows_16 rfl rfl ?_
      refine x_al_n (q := 18) dX7_rows_17 rfl rfl ?_
      refine x_VI (q := 21) (ci := 7) dX7_rows_18 rfl kX7_rows_82 (m_states hs hr hmu hv) rfl rfl (hs _ _ rfl) (by decide) rfl (Nat.le_of_ble_eq_true rfl) ⟨rfl, rfl⟩ ⟨Nat.zero_le _, Nat.zero_le _⟩ ?_
      refine x_ic_ge (t := 49) (q := 24) dX7_rows_21 rfl rfl (fun c_21 => ?_) (fun c_21 => ?_)
      · skip
        exact absurd c_21 (by omega)
      · skip
        refine x_al_n (q := 25) dX7_rows_24 rfl rfl ?_
        refine x_getR (q := 28) (o := some (82)) dX7_rows_25 rfl fX7_44 (hs _ _ rfl) rfl (hr _ _ rfl) ?_
        refine x_il_n (q := 29) dX7_rows_28 rfl rfl ?_
        refine x_il_n (q := 30) dX7_rows_29 rfl rfl ?_
        refine x_al_n (q := 31) dX7_rows_30 rfl rfl ?_
        refine x_VI (q := 34) (ci := 7) dX7_rows_31 rfl kX7_rows_163 (m_start hs hr hmu hv) rfl rfl (hs _ _ rfl) (by decide) rfl (Nat.le_of_ble_eq_true rfl) ⟨rfl, rfl⟩ ⟨Nat.zero_le _, Nat.zero_le _⟩ ?_
        refine x_ic_ne (t := 41) (q := 37) dX7_rows_34 rfl rfl (fun c_34 => ?_) (fun c_34 => ?_)
        · skip
          rw [if_neg c_34] at hR0
          refine x_ic (q := 42) dX7_rows_41 rfl rfl ?_
          refine x_iast (q := 43) dX7_rows_42 rfl (hs _ _ rfl) (by omega) (by omega) ?_
          refine x_ii2 (q := 46) dX7_rows_43 rfl rfl ⟨by omega, by omega⟩ ?_
          refine x_goto (t := 16) dX7_rows_46 rfl ?_
          rw [Int.toNat_natCast]
          refine ih _ ⟨fun y hy => ?_, fun d h1 h2 => by rw [up_n _ _ _ h1]; exact hu2 d h1 h2⟩
          rw [up_at]
          by_cases he : y = s
          · rw [if_pos he, he, hR0]
          · rw [if_neg he]; exact hu1 y (by omega)
        · skip
          rw [if_pos c_34] at hR0
          refine x_ic (q := 38) dX7_rows_37 rfl rfl ?_
          refine x_goto (t := 42) dX7_rows_38 rfl ?_
          refine x_iast (q := 43) dX7_rows_42 rfl (hs _ _ rfl) (by omega) (by omega) ?_
          refine x_ii2 (q := 46) dX7_rows_43 rfl rfl ⟨by omega, by omega⟩ ?_
          refine x_goto (t := 16) dX7_rows_46 rfl ?_
          rw [Int.toNat_natCast]
          refine ih _ ⟨fun y hy => ?_, fun d h1 h2 => by rw [up_n _ _ _ h1]; exact hu2 d h1 h2⟩
          rw [up_at]
          by_cases he : y = s
          · rw [if_pos he, he, hR0]
          · rw [if_neg he]; exact hu1 y (by omega)
  · skip
    have e_9 := of_decide_eq_false (b2i_0.mp c_9)
    refine x_ic (q := 13) dX7_rows_12 rfl rfl ?_
    exact x_iret dX7_rows_13 rfl rfl (Nat.zero_le _) ⟨by rw [a_rows, if_pos (by omega)], v, rfl, Sm.refl v⟩
end MOR

/-! ===== the state, and what each call answers ===== -/
/-- held: what is told; how many words; the words, as they were sent, their tags; send -/
abbrev Hd : Type := Cfg × Nat × (Nat → Int) × (Nat → Int) × (Nat → Int) × Int
/-- now; what may be undone, the latest last; images; seen; the text -/
abbrev St : Type := Hd × List Hd × (Option Hd × Option Hd) × (Nat × (Nat → Int)) × (Nat × (Nat → Int))
def Ex (E : Nat → Nat → Int) (s w : Int) : Int := if 0 ≤ s ∧ s < 7 ∧ 0 ≤ w ∧ w < 16 then E s.toNat w.toNat else -9
theorem endF_Ex {v : Nat → Nat → Int} {E : Nat → Nat → Int} (h : RowE v E) (s w : Int) : endF v s w = Ex E s w := by
  unfold endF Ex
  by_cases hc : 0 ≤ s ∧ s < 7 ∧ 0 ≤ w ∧ w < 16
  · rw [if_pos hc, if_pos hc, h _ (by omega), show (s * 16 + w).toNat / 16 = s.toNat by omega, show (s * 16 + w).toNat % 16 = w.toNat by omega]
  · rw [if_neg hc, if_neg hc]
theorem tagF_Ex {v : Nat → Nat → Int} {E : Nat → Nat → Int} (h : RowTT v E) (s w : Int) : tagF v s w = Ex E s w := by
  unfold tagF Ex
  by_cases hc : 0 ≤ s ∧ s < 7 ∧ 0 ≤ w ∧ w < 16
  · rw [if_pos hc, if_pos hc, h _ (by omega), show (s * 16 + w).toNat / 16 = s.toNat by omega, show (s * 16 + w).toNat % 16 = w.toNat by omega]
  · rw [if_neg hc, if_neg hc]
theorem Ex_n {E : Nat → Nat → Int} {s w : Nat} (hs : s < 7) (hw : w < 16) : Ex E s w = E s w := by
  unfold Ex
  rw [if_pos (by omega)]; rfl
/-- where arcs with tags lead over k words from the i-th on -/
def FW (T E : Nat → Nat → Int) (f : Nat → Int) : Nat → Nat → Int → Int
  | 0, _, x => x
  | k + 1, i, x => if Ex T x (f i) = -9 then -9 else FW T E f k (i + 1) (Ex E x (f i))
theorem folw_FW {v : Nat → Nat → Int} {T E : Nat → Nat → Int} {f : Nat → Int} {c : Nat} (hE : RowE v E) (hT : RowTT v T) : ∀ (k i : Nat) (x : Int), (∀ j, i ≤ j → j < i + k → v c j = f j) → folw v c k i x = FW T E f k i x
  | 0, _, _, _ => rfl
  | k + 1, i, x, h => by
    unfold folw FW
    rw [h i (by omega) (by omega), tagF_Ex hT, endF_Ex hE, folw_FW hE hT k (i + 1) _ (fun j h1 h2 => h j (by omega) (by omega))]
theorem FW_cong {T E : Nat → Nat → Int} {f f2 : Nat → Int} : ∀ (k i : Nat) (x : Int), (∀ j, i ≤ j → j < i + k → f j = f2 j) → FW T E f k i x = FW T E f2 k i x
  | 0, _, _, _ => rfl
  | k + 1, i, x, h => by
    unfold FW
    rw [h i (by omega) (by omega), FW_cong k (i + 1) _ (fun j h1 h2 => h j (by omega) (by omega))]
/-- read by states: (state, tag) behind k words -/
def rdS (T E : Nat → Nat → Int) (b : Int) (f : Nat → Int) : Nat → Int × Int
  | 0 => (b, -9)
  | k + 1 => (if Ex T (rdS T E b f k).1 (f k) = -9 then (rdS T E b f k).1 else Ex E (rdS T E b f k).1 (f k), Ex T (rdS T E b f k).1 (f k))
def rbS (H : Hd) (i : Nat) : Int := (rdS (tT H.1) (eT H.1) (Bg H.1) H.2.2.1 (i + 1)).2
def rwS (H : Hd) (i : Nat) : Int := fi (fun s => !decide (FW (tT H.1) (eT H.1) H.2.2.1 ((Wn H.1).toNat + 1) i (s : Int) = -9)) 0 (nS H.1)
def rbW (H : Hd) (i : Nat) : Int := if Wn H.1 < 0 ∨ (H.2.1 : Int) ≤ i + Wn H.1 then -9 else if rwS H i = -9 then -9 else Ex (tT H.1) (rwS H i) (H.2.2.1 i)
def seT (S : St) (s : Nat) : Int := if hasB (mk (Gd S.1.1) (nS S.1.1)) s = true then FW (tT S.1.1) (eT S.1.1) S.2.2.2.1.2 S.2.2.2.1.1 0 s else -9
def orT (S : St) : Nat → Int
  | 0 => 0
  | s + 1 => if seT S s = -9 then orT S s else (((orT S s).toNat ||| ((2 : Int) ^ (seT S s).toNat).toNat : Nat) : Int)
def moA (S : St) (b t : Int) : Int := mostA (fun s => hasB b s) (fun s => cnt (fun s2 => hasB b s2 && decide (wwT (tT S.1.1) s2 t = wwT (tT S.1.1) s t)) (nS S.1.1)) (nS S.1.1)
def bst (S : St) (b : Int) : Nat → Int × Int
  | 0 => (-9, 8)
  | t + 1 => if moA S b t < (bst S b t).2 then ((t : Int), moA S b t) else bst S b t
def pushP (ps : List Hd) (h : Hd) : List Hd := if ps.length < 6 then ps ++ [h] else ps.drop 1 ++ [h]
/-! the calls: answer, state -/
def o_type (S : St) (x : Int) : Int × St := if x < 0 ∨ 255 < x then (-1, S) else if 60 ≤ S.2.2.2.2.1 then (-3, S) else ((S.2.2.2.2.1 : Int) + 1, S.1, S.2.1, S.2.2.1, S.2.2.2.1, S.2.2.2.2.1 + 1, upx S.2.2.2.2.2 S.2.2.2.2.1 x)
def o_clear (S : St) : Int × St := ((S.2.2.2.2.1 : Int), S.1, S.2.1, S.2.2.1, S.2.2.2.1, 0, S.2.2.2.2.2)
def o_tells (S : St) : Int × St := if ¬ (parse S.2.2.2.2.2 S.2.2.2.2.1).1 = -1 then (-10 - (parse S.2.2.2.2.2 S.2.2.2.2.1).1, S) else ((nS (parse S.2.2.2.2.2 S.2.2.2.2.1).2 : Int), ((parse S.2.2.2.2.2 S.2.2.2.2.1).2, 0, S.1.2.2.1, S.1.2.2.2.1, S.1.2.2.2.2.1, Bg (parse S.2.2.2.2.2 S.2.2.2.2.1).2), pushP S.2.1 S.1, (none, none), (0, S.2.2.2.1.2), 0, S.2.2.2.2.2)
def o_sends (S : St) (t : Int) : Int × St := if t < 0 ∨ nd S.1.1 ≤ t then (-1, S) else if mk (Gd S.1.1) (nS S.1.1) = 0 then (-2, S) else if 24 ≤ S.1.2.1 then (-3, S) else (wwT (tT S.1.1) S.1.2.2.2.2.2.toNat t, (S.1.1, S.1.2.1 + 1, upx S.1.2.2.1 S.1.2.1 (wwT (tT S.1.1) S.1.2.2.2.2.2.toNat t), upx S.1.2.2.2.1 S.1.2.1 (wwT (tT S.1.1) S.1.2.2.2.2.2.toNat t), upx S.1.2.2.2.2.1 S.1.2.1 t, Ex (eT S.1.1) S.1.2.2.2.2.2 (wwT (tT S.1.1) S.1.2.2.2.2.2.toNat t)), pushP S.2.1 S.1, S.2.2)
def fpl (S : St) (b : Int) : Nat := (S.1.1.2.2.2.2 - 1 - b % S.1.1.2.2.2.2).toNat
def fnw (S : St) (b : Int) : Int := (((S.1.2.2.1 (b / S.1.1.2.2.2.2).toNat).toNat ^^^ ((2 : Int) ^ fpl S b).toNat : Nat) : Int)
def o_flips (S : St) (b : Int) : Int × St := if b < 0 ∨ (S.1.2.1 : Int) * S.1.1.2.2.2.2 ≤ b then (-1, S) else (fnw S b / 2 ^ fpl S b % 2, (S.1.1, S.1.2.1, upx S.1.2.2.1 (b / S.1.1.2.2.2.2).toNat (fnw S b), S.1.2.2.2), pushP S.2.1 S.1, S.2.2)
def o_undo (S : St) : Int × St := match S.2.1.getLast? with
  | none => (-2, S)
  | some h => ((S.2.1.length : Int) - 1, h, S.2.1.dropLast, S.2.2)
def a_step (S : St) (s b : Int) : Int := if s < 0 ∨ (nS S.1.1 : Int) ≤ s ∨ b < 0 ∨ 1 < b then -1 else stp S.1.1.1 S.1.1.2.1 S.1.1.2.2.1 s b
def a_arc (S : St) (s w k : Int) : Int := if s < 0 ∨ (nS S.1.1 : Int) ≤ s ∨ w < 0 ∨ 2 ^ S.1.1.2.2.2.2.toNat ≤ w ∨ k < 0 ∨ 1 < k then -1 else if k = 0 then Ex (eT S.1.1) s w else Ex (tT S.1.1) s w
def a_state (S : St) (s k : Int) : Int := if s < 0 ∨ (nS S.1.1 : Int) ≤ s ∨ k < 0 ∨ 1 < k then -1 else if k = 0 then cnt (fun w => !decide (Ex (eT S.1.1) s w = -9)) 16 else b2i (hasB (mk (Gd S.1.1) (nS S.1.1)) s)
def a_weight (S : St) (s l k : Int) : Int := if s < 0 ∨ (nS S.1.1 : Int) ≤ s ∨ l < 1 ∨ 9 < l ∨ k < 0 ∨ 1 < k then -1 else if k = 0 then atx (WT (eT S.1.1) S.1.1.2.2.2.1 l (nS S.1.1)) s else share (WT (eT S.1.1) S.1.1.2.2.2.1 l (nS S.1.1)) 7 s
def a_rows (S : St) (n : Int) : Int := if n < 0 ∨ 20 < n then -1 else rowsN S.1.1.1 S.1.1.2.1 S.1.1.2.2.1 n.toNat
def a_word (S : St) (i k : Int) : Int := if i < 0 ∨ (S.1.2.1 : Int) ≤ i ∨ k < 0 ∨ 3 < k then -1 else if k = 0 then S.1.2.2.1 i.toNat else if k = 1 then S.1.2.2.2.2.1 i.toNat else if k = 2 then rbS S.1 i.toNat else rbW S.1 i.toNat
def a_wrong (S : St) (k : Int) : Int := if k < 0 ∨ 1 < k then -1 else cnt (fun i => !decide ((if k = 0 then rbS S.1 i else rbW S.1 i) = S.1.2.2.2.2.1 i)) S.1.2.1
def o_sees (S : St) (w : Int) : Int × St := if w < 0 ∨ 2 ^ S.1.1.2.2.2.2.toNat ≤ w then (-1, S) else if 6 ≤ S.2.2.2.1.1 then (-3, S) else ((S.2.2.2.1.1 : Int) + 1, S.1, S.2.1, S.2.2.1, (S.2.2.2.1.1 + 1, upx S.2.2.2.1.2 S.2.2.2.1.1 w), S.2.2.2.2)
def o_forget (S : St) : Int × St := ((S.2.2.2.1.1 : Int), S.1, S.2.1, S.2.2.1, (0, S.2.2.2.1.2), S.2.2.2.2)
def a_which (S : St) (k : Int) : Int := if k < 0 ∨ 1 < k then -1 else if k = 0 then mk (fun s => !decide (seT S s = -9)) (nS S.1.1) else orT S (nS S.1.1)
def a_ask (S : St) : Int := if pcnt (orT S (nS S.1.1)) < 2 then -9 else (bst S (orT S (nS S.1.1)) (nd S.1.1).toNat).1
def o_keep (S : St) (i : Int) : Int × St := if i < 0 ∨ 2 ≤ i then (-1, S) else ((S.1.2.1 : Int), S.1, S.2.1, (if i = 0 then (some S.1, S.2.2.1.2) else (S.2.2.1.1, some S.1)), S.2.2.2)
def imgO (S : St) (i : Int) : Option Hd := if i = 0 then S.2.2.1.1 else S.2.2.1.2
def o_back (S : St) (i : Int) : Int × St := if i < 0 ∨ 2 ≤ i then (-1, S) else match imgO S i with
  | none => (-2, S)
  | some h => ((h.2.1 : Int), h, [], S.2.2)
def tbS (H : Hd) : Nat → Int
  | 0 => 0
  | n + 1 => tbS H n + pcnt (((H.2.2.1 n).toNat ^^^ (H.2.2.2.1 n).toNat : Nat) : Int)
def a_count (S : St) (k : Int) : Int := if k = 0 then (nS S.1.1 : Int) else if k = 1 then stt S.1.1.1 S.1.1.2.1 else if k = 2 then S.1.1.2.2.2.1 else if k = 3 then S.1.1.2.2.2.2 else if k = 4 then mk (Gd S.1.1) (nS S.1.1) else if k = 5 then Bg S.1.1 else if k = 6 then S.1.2.2.2.2.2 else if k = 7 then Wn S.1.1 else if k = 8 then (S.1.2.1 : Int) else if k = 9 then tbS S.1 S.1.2.1 else if k = 10 then (S.2.2.2.1.1 : Int) else if k = 11 then (S.2.2.2.2.1 : Int) else if k = 12 then (S.2.1.length : Int) else -1
/-! what always holds -/
def HV (H : Hd) : Prop := Vld H.1 ∧ H.2.1 ≤ 24 ∧ (∀ i, i < H.2.1 → 0 ≤ H.2.2.1 i ∧ H.2.2.1 i < 2 ^ H.1.2.2.2.2.toNat ∧ 0 ≤ H.2.2.2.1 i ∧ H.2.2.2.1 i < 2 ^ H.1.2.2.2.2.toNat) ∧
  ((mk (Gd H.1) (nS H.1) = 0 ∧ H.2.1 = 0 ∧ H.2.2.2.2.2 = -9) ∨ (¬ mk (Gd H.1) (nS H.1) = 0 ∧ ∃ s : Nat, s < nS H.1 ∧ Gd H.1 s = true ∧ H.2.2.2.2.2 = (s : Int)))
def SV (S : St) : Prop := HV S.1 ∧ S.2.1.length ≤ 6 ∧ (∀ h ∈ S.2.1, HV h) ∧ (∀ h, S.2.2.1.1 = some h → HV h) ∧ (∀ h, S.2.2.1.2 = some h → HV h) ∧ (S.2.2.2.1.1 ≤ 6 ∧ ∀ i, i < S.2.2.2.1.1 → 0 ≤ S.2.2.2.1.2 i ∧ S.2.2.2.1.2 i < 16) ∧ S.2.2.2.2.1 ≤ 60 ∧ TR S.2.2.2.2.2 S.2.2.2.2.1
theorem pw16 {q : Int} (h0 : 1 ≤ q) (h1 : q ≤ 4) : (2 : Int) ^ q.toNat ≤ 16 ∧ 2 ≤ (2 : Int) ^ q.toNat := by
  have h2 := pw_le (k := q.toNat) (n := 4) (by omega)
  have h3 := pw_le (k := 1) (n := q.toNat) (by omega)
  have e4 : (2 : Int) ^ 4 = 16 := by decide
  have e1 : (2 : Int) ^ 1 = 2 := by decide
  omega
theorem HV.w16 {H : Hd} (h : HV H) {i : Nat} (hi : i < H.2.1) : 0 ≤ H.2.2.1 i ∧ H.2.2.1 i < 16 ∧ 0 ≤ H.2.2.2.1 i ∧ H.2.2.2.1 i < 16 := by
  have h1 := h.2.2.1 i hi
  have h2 := pw16 h.1.2.2.2.1 h.1.2.2.2.2
  omega
/-! tags: each of a good state's is there once -/
theorem tcn_mono (a : Nat → Bool) (need : Int) : ∀ w k, tcn a need w ≤ tcn a need (w + k)
  | w, 0 => Int.le_refl _
  | w, k + 1 => by
    have h1 := tcn_mono a need w k
    have h2 := b2i_rng (a (w + k) && decide (tcn a need (w + k) < need))
    show tcn a need w ≤ tcn a need (w + k) + b2i (a (w + k) && decide (tcn a need (w + k) < need))
    omega
theorem tg_inj {a : Nat → Bool} {need t : Int} (hn : 0 ≤ need) (ht : 0 ≤ t) {w w2 : Nat} (h1 : tg a need w = t) (h2 : tg a need w2 = t) : w = w2 := by
  have key : ∀ w w2, w < w2 → tg a need w = t → tg a need w2 = t → False := by
    intro w w2 hlt h1 h2
    unfold tg at h1 h2
    split at h1
    · rename_i c1
      split at h2
      · have m := tcn_mono a need (w + 1) (w2 - w - 1)
        rw [show w + 1 + (w2 - w - 1) = w2 by omega] at m
        have e : tcn a need (w + 1) = tcn a need w + 1 := by
          show tcn a need w + b2i (a w && decide (tcn a need w < need)) = _
          rw [c1]; rfl
        omega
      · omega
    · omega
  rcases Nat.lt_trichotomy w w2 with h | h | h
  · exact (key w w2 h h1 h2).elim
  · exact h
  · exact (key w2 w h h2 h1).elim
theorem tcn_cnt {a : Nat → Bool} {need : Int} : ∀ w, cnt a w ≤ tcn a need w ∨ need ≤ tcn a need w
  | 0 => .inl (Int.le_refl _)
  | w + 1 => by
    have ih := tcn_cnt (a := a) (need := need) w
    show cnt a w + b2i (a w) ≤ tcn a need w + b2i (a w && decide (tcn a need w < need)) ∨ need ≤ tcn a need w + b2i (a w && decide (tcn a need w < need))
    by_cases h : tcn a need w < need
    · rw [decide_eq_true h, Bool.and_true]
      omega
    · right
      have := b2i_rng (a w && decide (tcn a need w < need))
      omega
theorem tcn_all {a : Nat → Bool} {need : Int} (hn : 0 ≤ need) : ∀ w t, 0 ≤ t → t < tcn a need w → ∃ w2, w2 < w ∧ tg a need w2 = t
  | 0, t, h0, h1 => by simp [tcn] at h1; omega
  | w + 1, t, h0, h1 => by
    by_cases h : t < tcn a need w
    · obtain ⟨w2, h2, h3⟩ := tcn_all hn w t h0 h
      exact ⟨w2, by omega, h3⟩
    · have e : tcn a need (w + 1) = tcn a need w + b2i (a w && decide (tcn a need w < need)) := rfl
      cases hb : (a w && decide (tcn a need w < need)) with
      | false => rw [hb] at e; simp [b2i] at e; omega
      | true =>
        rw [hb] at e
        have e2 : tcn a need (w + 1) = tcn a need w + 1 := e
        refine ⟨w, by omega, ?_⟩
        unfold tg
        rw [if_pos hb]
        omega
theorem tg_rng {a : Nat → Bool} {need : Int} (hn : 0 ≤ need) (w : Nat) : tg a need w = -9 ∨ (0 ≤ tg a need w ∧ tg a need w < need ∧ a w = true) := by
  have h := tcn_rng a need hn w
  unfold tg
  split
  · rename_i h1
    simp at h1
    right
    exact ⟨h.1, h1.2, h1.1⟩
  · exact .inl rfl
theorem fi_rng {f : Nat → Bool} : ∀ (k i : Nat), fi f i k = -9 ∨ ∃ j, i ≤ j ∧ j < i + k ∧ f j = true ∧ fi f i k = (j : Int)
  | 0, i => .inl rfl
  | k + 1, i => by
    unfold fi
    split
    · rename_i h
      exact .inr ⟨i, by omega, by omega, h, rfl⟩
    · rcases fi_rng (f := f) k (i + 1) with h | ⟨j, h1, h2, h3, h4⟩
      · exact .inl h
      · exact .inr ⟨j, by omega, by omega, h3, h4⟩
theorem fi_ex {f : Nat → Bool} : ∀ (k i j : Nat), i ≤ j → j < i + k → f j = true → ∃ m, i ≤ m ∧ m ≤ j ∧ f m = true ∧ fi f i k = (m : Int)
  | 0, i, j, h1, h2, _ => by omega
  | k + 1, i, j, h1, h2, h3 => by
    unfold fi
    by_cases h : f i = true
    · rw [if_pos h]
      exact ⟨i, by omega, h1, h, rfl⟩
    · rw [if_neg h]
      have hij : i ≠ j := fun e => h (e ▸ h3)
      obtain ⟨m, g1, g2, g3, g4⟩ := fi_ex k (i + 1) j (by omega) (by omega) h3
      exact ⟨m, by omega, g2, g3, g4⟩
/-- a good state's word for a tag -/
theorem ww_ok {c : Cfg} (hv : Vld c) {s : Nat} (hs : s < nS c) (hg : Gd c s = true) {t : Int} (h0 : 0 ≤ t) (h1 : t < nd c) : ∃ w : Nat, w < 16 ∧ wwT (tT c) s t = (w : Int) ∧ tT c s w = t := by
  have hn := nS_rng hv
  have hd := nd_rng hv
  have hr := gd_rnd (e := eT c) (need := nd c) hn.2.1 hs hg
  have ha : cnt (aG (eT c) (Gd c) (nS c) s) 16 = cnt (fun w => inS (Gd c) (nS c) (eT c s w)) 16 := cnt_cong (fun w _ => by
    unfold aG
    rw [inS_nat hs, hg]; rfl)
  have htc : nd c ≤ tcn (aG (eT c) (Gd c) (nS c) s) (nd c) 16 := by
    rcases tcn_cnt (a := aG (eT c) (Gd c) (nS c) s) (need := nd c) 16 with h | h
    · rw [ha] at h
      exact Int.le_trans hr h
    · exact h
  obtain ⟨w2, h2, h3⟩ := tcn_all (a := aG (eT c) (Gd c) (nS c) s) (need := nd c) (by omega) 16 t h0 (by omega)
  obtain ⟨m, g1, g2, g3, g4⟩ := fi_ex (f := fun w => decide (tT c s w = t)) 16 0 w2 (by omega) (by omega) (decide_eq_true h3)
  exact ⟨m, by omega, g4, by simpa using g3⟩
/-- an arc with a tag leads from a good state to a good one, over a word that there is -/
theorem tT_good {c : Cfg} (hv : Vld c) {s w : Nat} (h : ¬ tT c s w = -9) : s < nS c ∧ Gd c s = true ∧ (w : Int) < 2 ^ c.2.2.2.2.toNat ∧ 0 ≤ tT c s w ∧ tT c s w < nd c ∧ ∃ m : Nat, m < nS c ∧ Gd c m = true ∧ eT c s w = (m : Int) := by
  have hd := nd_rng hv
  rcases tg_rng (a := aG (eT c) (Gd c) (nS c) s) (need := nd c) (by omega) w with h1 | h1
  · exact absurd h1 h
  · obtain ⟨h2, h3, h4⟩ := h1
    unfold aG at h4
    simp only [Bool.and_eq_true] at h4
    obtain ⟨h5, h6⟩ := h4
    unfold inS at h5 h6
    simp at h5 h6
    refine ⟨by omega, h5.2, ?_, h2, h3, (eT c s w).toNat, by omega, h6.2, by omega⟩
    rcases Decidable.em ((w : Int) < 2 ^ c.2.2.2.2.toNat) with q | q
    · exact q
    · have := eT_o2 (s := s) q
      omega

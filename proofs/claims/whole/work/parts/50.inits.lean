/-! ===== the constructors: exactly what they make ===== -/
theorem ap {sh l : List (Nat × Nat)} {c : Nat} {k : Nat × Nat} (h : sh[c]? = some k) : (sh ++ l)[c]? = some k := by rw [List.getElem?_append_left (List.getElem?_eq_some_iff.mp h).1]; exact h
theorem apn {sh : List (Nat × Nat)} (k : Nat × Nat) : (sh ++ [k])[sh.length]? = some k := by simp
def oF (h : AH) (c k : Nat) (o : Option Nat) : AH := (h.1, upO h.2.1 c k o, h.2.2)
def oI (h : AH) (c k : Nat) (z : Int) : AH := (h.1, h.2.1, up h.2.2 c k z)
def oN (h : AH) (kl : Nat × Nat) : AH := (h.1 ++ [kl], upRo h.2.1 h.1.length (fun _ => none), upR h.2.2 h.1.length (fun _ => 0))
def oB (h : AH) (c : Nat) : AH := (h.1, h.2.1, setBan h.2.2 c (0, 1, 3, 1, 2))
/-- a new array, put into a field -/
def oA (h : AH) (e k : Nat) (kl : Nat × Nat) : AH := oF (oN h kl) e k (some h.1.length)
def HText (h : AH) (e : Nat) : AH := oI (oA h e 0 (0, 60)) e 1 0
def HLine (h : AH) (e : Nat) : AH := oI (oI (oA (oA (oA h e 0 (0, 24)) e 1 (0, 24)) e 2 (0, 24)) e 3 0) e 4 (-9)
def HHeld (h : AH) (e : Nat) : AH := oF (HLine (oN (oF (oB (oN h (4, 5)) h.1.length) e 0 (some h.1.length)) (6, 5)) (h.1.length + 1)) e 1 (some (h.1.length + 1))
def HArcs (h : AH) (e : Nat) : AH := oA (oA (oA (oA h e 4 (0, 112)) e 5 (0, 112)) e 6 (0, 7)) e 7 (0, 7)
def HSums (h : AH) (e : Nat) : AH := oA (oA h e 0 (0, 7)) e 1 (0, 7)
section INI
variable {g : GL} {sh : List (Nat × Nat)} {rf : Nat → Nat → Option Nat} {v : Nat → Nat → Int}

set_option maxHeartbeats 4000000 in
set_option maxRecDepth 100000 in
theorem c_textInit {e : Nat} (he : sh[e]? = some (8, 5)) : Cv g mX5_init [aR e] (sh, rf, v) (retV (HText (sh, rf, v) e)) := by
  refine x_entry (ls := [some (aR e)]) rfl rfl (Nat.le_of_ble_eq_true rfl) ?_
  refine x_al_n (q := 1) dX5_init_0 rfl rfl ?_
  refine x_obj (q := 4) dX5_init_1 rfl q93 q86 q87 (Nat.le_of_ble_eq_true rfl) (Nat.le_of_ble_eq_true rfl) (Nat.le_of_ble_eq_true rfl) ?_
  refine x_al_n (q := 5) dX5_init_4 rfl rfl ?_
  refine x_bi (q := 7) dX5_init_5 rfl rfl ?_
  refine x_newI (q := 9) (n := 60) dX5_init_7 rfl q111 rfl (by decide) (Nat.le_of_ble_eq_true rfl) (Nat.le_of_ble_eq_true rfl) ?_
  refine x_putF (q := 12) dX5_init_9 rfl fX5_9 (by first | exact he | exact ap he | exact ap (ap he) | exact ap (ap (ap he)) | exact ap (ap (ap (ap he))) | exact apn _ | exact ap (apn _) | (show (((((sh ++ [(4, 5)]) ++ [(6, 5)]) ++ [(0, 24)]) ++ [(0, 24)]) ++ [(0, 24)])[e]? = _; exact ap (ap (ap (ap (ap he)))))) rfl rfl rfl rfl ?_
  refine x_al_n (q := 13) dX5_init_12 rfl rfl ?_
  refine x_ic (q := 14) dX5_init_13 rfl rfl ?_
  refine x_putI (q := 17) dX5_init_14 rfl fX5_15 (by first | exact he | exact ap he | exact ap (ap he) | exact ap (ap (ap he)) | exact ap (ap (ap (ap he))) | exact apn _ | exact ap (apn _) | (show (((((sh ++ [(4, 5)]) ++ [(6, 5)]) ++ [(0, 24)]) ++ [(0, 24)]) ++ [(0, 24)])[e]? = _; exact ap (ap (ap (ap (ap he)))))) (.inl rfl) rfl ?_
  refine x_vret dX5_init_17 rfl rfl (Nat.le_of_ble_eq_true rfl) ⟨rfl, ?_⟩
  simp [HText, oA, oN, oF, oI, oB, mkH]
set_option maxHeartbeats 4000000 in
set_option maxRecDepth 100000 in
theorem c_lineInit {e : Nat} (he : sh[e]? = some (6, 5)) : Cv g mX3_init [aR e] (sh, rf, v) (retV (HLine (sh, rf, v) e)) := by
  refine x_entry (ls := [some (aR e)]) rfl rfl (Nat.le_of_ble_eq_true rfl) ?_
  refine x_al_n (q := 1) dX3_init_0 rfl rfl ?_
  refine x_obj (q := 4) dX3_init_1 rfl q159 q86 q87 (Nat.le_of_ble_eq_true rfl) (Nat.le_of_ble_eq_true rfl) (Nat.le_of_ble_eq_true rfl) ?_
  refine x_al_n (q := 5) dX3_init_4 rfl rfl ?_
  refine x_bi (q := 7) dX3_init_5 rfl rfl ?_
  refine x_newI (q := 9) (n := 24) dX3_init_7 rfl q111 rfl (by decide) (Nat.le_of_ble_eq_true rfl) (Nat.le_of_ble_eq_true rfl) ?_
  refine x_putF (q := 12) dX3_init_9 rfl fX3_9 (by first | exact he | exact ap he | exact ap (ap he) | exact ap (ap (ap he)) | exact ap (ap (ap (ap he))) | exact apn _ | exact ap (apn _) | (show (((((sh ++ [(4, 5)]) ++ [(6, 5)]) ++ [(0, 24)]) ++ [(0, 24)]) ++ [(0, 24)])[e]? = _; exact ap (ap (ap (ap (ap he)))))) rfl rfl rfl rfl ?_
  refine x_al_n (q := 13) dX3_init_12 rfl rfl ?_
  refine x_bi (q := 15) dX3_init_13 rfl rfl ?_
  refine x_newI (q := 17) (n := 24) dX3_init_15 rfl q111 rfl (by decide) (Nat.le_of_ble_eq_true rfl) (Nat.le_of_ble_eq_true rfl) ?_
  refine x_putF (q := 20) dX3_init_17 rfl fX3_15 (by first | exact he | exact ap he | exact ap (ap he) | exact ap (ap (ap he)) | exact ap (ap (ap (ap he))) | exact apn _ | exact ap (apn _) | (show (((((sh ++ [(4, 5)]) ++ [(6, 5)]) ++ [(0, 24)]) ++ [(0, 24)]) ++ [(0, 24)])[e]? = _; exact ap (ap (ap (ap (ap he)))))) rfl rfl rfl rfl ?_
  refine x_al_n (q := 21) dX3_init_20 rfl rfl ?_
  refine x_bi (q := 23) dX3_init_21 rfl rfl ?_
  refine x_newI (q := 25) (n := 24) dX3_init_23 rfl q111 rfl (by decide) (Nat.le_of_ble_eq_true rfl) (Nat.le_of_ble_eq_true rfl) ?_
  refine x_putF (q := 28) dX3_init_25 rfl fX3_18 (by first | exact he | exact ap he | exact ap (ap he) | exact ap (ap (ap he)) | exact ap (ap (ap (ap he))) | exact apn _ | exact ap (apn _) | (show (((((sh ++ [(4, 5)]) ++ [(6, 5)]) ++ [(0, 24)]) ++ [(0, 24)]) ++ [(0, 24)])[e]? = _; exact ap (ap (ap (ap (ap he)))))) rfl rfl rfl rfl ?_
  refine x_al_n (q := 29) dX3_init_28 rfl rfl ?_
  refine x_ic (q := 30) dX3_init_29 rfl rfl ?_
  refine x_putI (q := 33) dX3_init_30 rfl fX3_21 (by first | exact he | exact ap he | exact ap (ap he) | exact ap (ap (ap he)) | exact ap (ap (ap (ap he))) | exact apn _ | exact ap (apn _) | (show (((((sh ++ [(4, 5)]) ++ [(6, 5)]) ++ [(0, 24)]) ++ [(0, 24)]) ++ [(0, 24)])[e]? = _; exact ap (ap (ap (ap (ap he)))))) (.inl rfl) rfl ?_
  refine x_al_n (q := 34) dX3_init_33 rfl rfl ?_
  refine x_bi (q := 36) dX3_init_34 rfl rfl ?_
  refine x_putI (q := 39) dX3_init_36 rfl fX3_25 (by first | exact he | exact ap he | exact ap (ap he) | exact ap (ap (ap he)) | exact ap (ap (ap (ap he))) | exact apn _ | exact ap (apn _) | (show (((((sh ++ [(4, 5)]) ++ [(6, 5)]) ++ [(0, 24)]) ++ [(0, 24)]) ++ [(0, 24)])[e]? = _; exact ap (ap (ap (ap (ap he)))))) (.inl rfl) rfl ?_
  refine x_vret dX3_init_39 rfl rfl (Nat.le_of_ble_eq_true rfl) ⟨rfl, ?_⟩
  simp [HLine, oA, oN, oF, oI, oB, mkH]
set_option maxHeartbeats 4000000 in
set_option maxRecDepth 100000 in
theorem c_arcsInit {e : Nat} (he : sh[e]? = some (3, 8)) : Cv g mX0_init [aR e] (sh, rf, v) (retV (HArcs (sh, rf, v) e)) := by
  refine x_entry (ls := [some (aR e)]) rfl rfl (Nat.le_of_ble_eq_true rfl) ?_
  refine x_al_n (q := 1) dX0_init_0 rfl rfl ?_
  refine x_obj (q := 4) dX0_init_1 rfl q193 q86 q87 (Nat.le_of_ble_eq_true rfl) (Nat.le_of_ble_eq_true rfl) (Nat.le_of_ble_eq_true rfl) ?_
  refine x_al_n (q := 5) dX0_init_4 rfl rfl ?_
  refine x_bi (q := 7) dX0_init_5 rfl rfl ?_
  refine x_newI (q := 9) (n := 112) dX0_init_7 rfl q111 rfl (by decide) (Nat.le_of_ble_eq_true rfl) (Nat.le_of_ble_eq_true rfl) ?_
  refine x_putF (q := 12) dX0_init_9 rfl fX0_9 (by first | exact he | exact ap he | exact ap (ap he) | exact ap (ap (ap he)) | exact ap (ap (ap (ap he))) | exact apn _ | exact ap (apn _) | (show (((((sh ++ [(4, 5)]) ++ [(6, 5)]) ++ [(0, 24)]) ++ [(0, 24)]) ++ [(0, 24)])[e]? = _; exact ap (ap (ap (ap (ap he)))))) rfl rfl rfl rfl ?_
  refine x_al_n (q := 13) dX0_init_12 rfl rfl ?_
  refine x_bi (q := 15) dX0_init_13 rfl rfl ?_
  refine x_newI (q := 17) (n := 112) dX0_init_15 rfl q111 rfl (by decide) (Nat.le_of_ble_eq_true rfl) (Nat.le_of_ble_eq_true rfl) ?_
  refine x_putF (q := 20) dX0_init_17 rfl fX0_15 (by first | exact he | exact ap he | exact ap (ap he) | exact ap (ap (ap he)) | exact ap (ap (ap (ap he))) | exact apn _ | exact ap (apn _) | (show (((((sh ++ [(4, 5)]) ++ [(6, 5)]) ++ [(0, 24)]) ++ [(0, 24)]) ++ [(0, 24)])[e]? = _; exact ap (ap (ap (ap (ap he)))))) rfl rfl rfl rfl ?_
  refine x_al_n (q := 21) dX0_init_20 rfl rfl ?_
  refine x_bi (q := 23) dX0_init_21 rfl rfl ?_
  refine x_newI (q := 25) (n := 7) dX0_init_23 rfl q111 rfl (by decide) (Nat.le_of_ble_eq_true rfl) (Nat.le_of_ble_eq_true rfl) ?_
  refine x_putF (q := 28) dX0_init_25 rfl fX0_18 (by first | exact he | exact ap he | exact ap (ap he) | exact ap (ap (ap he)) | exact ap (ap (ap (ap he))) | exact apn _ | exact ap (apn _) | (show (((((sh ++ [(4, 5)]) ++ [(6, 5)]) ++ [(0, 24)]) ++ [(0, 24)]) ++ [(0, 24)])[e]? = _; exact ap (ap (ap (ap (ap he)))))) rfl rfl rfl rfl ?_
  refine x_al_n (q := 29) dX0_init_28 rfl rfl ?_
  refine x_bi (q := 31) dX0_init_29 rfl rfl ?_
  refine x_newI (q := 33) (n := 7) dX0_init_31 rfl q111 rfl (by decide) (Nat.le_of_ble_eq_true rfl) (Nat.le_of_ble_eq_true rfl) ?_
  refine x_putF (q := 36) dX0_init_33 rfl fX0_21 (by first | exact he | exact ap he | exact ap (ap he) | exact ap (ap (ap he)) | exact ap (ap (ap (ap he))) | exact apn _ | exact ap (apn _) | (show (((((sh ++ [(4, 5)]) ++ [(6, 5)]) ++ [(0, 24)]) ++ [(0, 24)]) ++ [(0, 24)])[e]? = _; exact ap (ap (ap (ap (ap he)))))) rfl rfl rfl rfl ?_
  refine x_vret dX0_init_36 rfl rfl (Nat.le_of_ble_eq_true rfl) ⟨rfl, ?_⟩
  simp [HArcs, oA, oN, oF, oI, oB, mkH]
set_option maxHeartbeats 4000000 in
set_option maxRecDepth 100000 in
theorem c_sumsInit {e : Nat} (he : sh[e]? = some (7, 2)) : Cv g mX4_init [aR e] (sh, rf, v) (retV (HSums (sh, rf, v) e)) := by
  refine x_entry (ls := [some (aR e)]) rfl rfl (Nat.le_of_ble_eq_true rfl) ?_
  refine x_al_n (q := 1) dX4_init_0 rfl rfl ?_
  refine x_obj (q := 4) dX4_init_1 rfl q229 q86 q87 (Nat.le_of_ble_eq_true rfl) (Nat.le_of_ble_eq_true rfl) (Nat.le_of_ble_eq_true rfl) ?_
  refine x_al_n (q := 5) dX4_init_4 rfl rfl ?_
  refine x_bi (q := 7) dX4_init_5 rfl rfl ?_
  refine x_newI (q := 9) (n := 7) dX4_init_7 rfl q111 rfl (by decide) (Nat.le_of_ble_eq_true rfl) (Nat.le_of_ble_eq_true rfl) ?_
  refine x_putF (q := 12) dX4_init_9 rfl fX4_9 (by first | exact he | exact ap he | exact ap (ap he) | exact ap (ap (ap he)) | exact ap (ap (ap (ap he))) | exact apn _ | exact ap (apn _) | (show (((((sh ++ [(4, 5)]) ++ [(6, 5)]) ++ [(0, 24)]) ++ [(0, 24)]) ++ [(0, 24)])[e]? = _; exact ap (ap (ap (ap (ap he)))))) rfl rfl rfl rfl ?_
  refine x_al_n (q := 13) dX4_init_12 rfl rfl ?_
  refine x_bi (q := 15) dX4_init_13 rfl rfl ?_
  refine x_newI (q := 17) (n := 7) dX4_init_15 rfl q111 rfl (by decide) (Nat.le_of_ble_eq_true rfl) (Nat.le_of_ble_eq_true rfl) ?_
  refine x_putF (q := 20) dX4_init_17 rfl fX4_15 (by first | exact he | exact ap he | exact ap (ap he) | exact ap (ap (ap he)) | exact ap (ap (ap (ap he))) | exact apn _ | exact ap (apn _) | (show (((((sh ++ [(4, 5)]) ++ [(6, 5)]) ++ [(0, 24)]) ++ [(0, 24)]) ++ [(0, 24)])[e]? = _; exact ap (ap (ap (ap (ap he)))))) rfl rfl rfl rfl ?_
  refine x_vret dX4_init_20 rfl rfl (Nat.le_of_ble_eq_true rfl) ⟨rfl, ?_⟩
  simp [HSums, oA, oN, oF, oI, oB, mkH]
set_option maxHeartbeats 4000000 in
set_option maxRecDepth 100000 in
theorem c_heldInit {e : Nat} (he : sh[e]? = some (5, 2)) : Cv g mX2_init [aR e] (sh, rf, v) (retV (HHeld (sh, rf, v) e)) := by
  refine x_entry (ls := [some (aR e)]) rfl rfl (Nat.le_of_ble_eq_true rfl) ?_
  refine x_al_n (q := 1) dX2_init_0 rfl rfl ?_
  refine x_obj (q := 4) dX2_init_1 rfl q151 q86 q87 (Nat.le_of_ble_eq_true rfl) (Nat.le_of_ble_eq_true rfl) (Nat.le_of_ble_eq_true rfl) ?_
  refine x_al_n (q := 5) dX2_init_4 rfl rfl ?_
  refine x_new (q := 8) (ci := 1) dX2_init_5 rfl (by decide) q152 q113 q71 (Nat.le_of_ble_eq_true rfl) (Nat.le_of_ble_eq_true rfl) ?_
  refine x_dup (q := 9) dX2_init_8 rfl rfl ?_
  refine x_callI (q := 12) dX2_init_9 rfl kX2_init_9 rfl (c_banInit (apn _)) rfl rfl (Nat.le_of_ble_eq_true rfl) ⟨(Nat.le_of_ble_eq_true rfl), (Nat.le_of_ble_eq_true rfl)⟩ (fun r1 h1 hp => ?_)
  obtain ⟨rfl, rfl⟩ := hp
  refine x_putF (q := 15) dX2_init_12 rfl fX2_10 (by first | exact he | exact ap he | exact ap (ap he) | exact ap (ap (ap he)) | exact ap (ap (ap (ap he))) | exact apn _ | exact ap (apn _) | (show (((((sh ++ [(4, 5)]) ++ [(6, 5)]) ++ [(0, 24)]) ++ [(0, 24)]) ++ [(0, 24)])[e]? = _; exact ap (ap (ap (ap (ap he)))))) rfl rfl rfl rfl ?_
  refine x_al_n (q := 16) dX2_init_15 rfl rfl ?_
  refine x_new (q := 19) (ci := 3) dX2_init_16 rfl (by decide) q154 q155 q73 (Nat.le_of_ble_eq_true rfl) (Nat.le_of_ble_eq_true rfl) ?_
  refine x_dup (q := 20) dX2_init_19 rfl rfl ?_
  refine x_callI (q := 23) dX2_init_20 rfl kX2_init_18 rfl (c_lineInit (apn _)) rfl rfl (Nat.le_of_ble_eq_true rfl) ⟨(Nat.le_of_ble_eq_true rfl), (Nat.le_of_ble_eq_true rfl)⟩ (fun r1 h1 hp => ?_)
  obtain ⟨rfl, rfl⟩ := hp
  refine x_putF (q := 26) dX2_init_23 rfl fX2_19 (by first | exact he | exact ap he | exact ap (ap he) | exact ap (ap (ap he)) | exact ap (ap (ap (ap he))) | exact apn _ | exact ap (apn _) | (show (((((sh ++ [(4, 5)]) ++ [(6, 5)]) ++ [(0, 24)]) ++ [(0, 24)]) ++ [(0, 24)])[e]? = _; exact ap (ap (ap (ap (ap he)))))) rfl rfl rfl rfl ?_
  refine x_vret dX2_init_26 rfl rfl (Nat.le_of_ble_eq_true rfl) ⟨rfl, ?_⟩
  simp [HHeld, oA, oN, oF, oI, oB, mkH, HLine, NFn]
end INI

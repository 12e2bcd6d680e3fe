/-! ===== the abstract machine: ints as Int, cells by number, one world ===== -/
def gw_tbl : List Cond := lw_tbl.filter goodWord
abbrev AV : Type := Int ⊕ (Int ⊕ Option Nat)
abbrev AH : Type := List (Nat × Nat) × (Nat → Nat → Option Nat) × (Nat → Nat → Int)
abbrev GL : Type := Launch × va_G × (ClassId × ClassId × ClassId) × Nat
abbrev MD : Type := MethodName × ByteArray × Nat × Option FieldType × Room
abbrev aI (z : Int) : AV := .inl z
abbrev aJ (z : Int) : AV := .inr (.inl z)
abbrev aQ (o : Option Nat) : AV := .inr (.inr o)
abbrev aR (c : Nat) : AV := .inr (.inr (some c))
abbrev aN : AV := .inr (.inr none)
def inI (z : Int) : Prop := -2147483648 ≤ z ∧ z < 2147483648
def inL (z : Int) : Prop := -9223372036854775808 ≤ z ∧ z < 9223372036854775808
def okV (a : AV) : Prop := match a with
  | .inl z => inI z
  | .inr (.inl z) => inL z
  | .inr (.inr _) => True
def cv (B : Nat) (a : AV) : Value := match a with
  | .inl z => .int (Int32.ofInt z)
  | .inr (.inl z) => .long (Int64.ofInt z)
  | .inr (.inr o) => va_rf (o.map (fun c => B + c))
def catA (a : AV) : Nat := match a with
  | .inr (.inl _) => 2
  | _ => 1
def fty (ci k : Nat) : FieldType := match ci with
  | 0 => tyX0 k
  | 1 => tyX1 k
  | 2 => tyX2 k
  | 3 => tyX3 k
  | 4 => tyX4 k
  | 5 => tyX5 k
  | 6 => tyX6 k
  | _ => tyX7 k
def isR (t : FieldType) : Bool := match t with
  | .object _ => true
  | .array _ => true
  | _ => false
def fv (B k j : Nat) (o : Option Nat) (z : Int) : Value := if isR (fty k j) then va_rf (o.map (fun c => B + c)) else .int (Int32.ofInt z)
def wcell (K : ClassId × ClassId × ClassId) (B : Nat) (kl : Nat × Nat) (r : Nat → Option Nat) (x : Nat → Int) : va_E := match kl.1 with
  | 0 => .inl (K.1, kl.2, .inl (fun j => Int32.ofInt (x j)))
  | 1 => .inl (K.2.1, kl.2, .inl (fun j => Int32.ofInt (x j)))
  | 2 => .inl (K.2.2, kl.2, .inr (.inr (.inr (.inr (fun j => (r j).map (fun c => B + c))))))
  | k + 3 => .inr (k, (List.range kl.2).map (fun j => fv B k j (r j) (x j)))
def wsH (K : ClassId × ClassId × ClassId) (B : Nat) (h : AH) : va_W := (List.range h.1.length).map (fun i => (B + i, wcell K B (h.1.getD i (0, 0)) (h.2.1 i) (h.2.2 i)))
def tysK (K : ClassId × ClassId × ClassId) : List (ClassId × FieldType) := [(K.1, .int), (K.2.1, .boolean), (K.2.2, .object RX2)]
def KK (g : GL) (U : State) : Prop := va_K g.2.1 vwCl (tysK g.2.2.1) U ∧ va_AO RX2 U
theorem KK.moved {g : GL} {u U : State} (hvm : u.vm.Alike U.vm) (h : KK g u) : KK g U := ⟨va_K.moved hvm h.1, va_AO.moved hvm h.2⟩
/-- n0: the heap's size as the method began, kc: the cells that it has made -/
def World (g : GL) (h : AH) (n0 kc : Nat) (H : Heap) : Prop := n0 + kc = g.2.2.2 + h.1.length ∧ va_P g.2.1 vwCl (wsH g.2.2.1 g.2.2.2 h) H ∧ ∀ c k, inI (h.2.2 c k)
def Ctx (g : GL) (M : MD) (p : Program) (s : State) (m : MethodId) (args : Array Value) (meth : Method) (c : Code) : Prop :=
  p.tables.exec = Jvm.exec ∧ c.code = M.2.1 ∧ c.maxLocals = M.2.2.1 ∧ meth.sig.returnType = M.2.2.2.1 ∧ s.vm.findClass M.1.cls = some m.cls ∧ (∀ w ∈ gw_tbl, w.before args s = true) ∧ meth.locks = false ∧ meth.name = M.1.name ∧ KK g s ∧ g.2.2.2 ≤ s.heap.size
def Lh (B : Nat) (lsm : Array Slot) (nL : Nat) (ls : List (Option AV)) : Prop := lsm.size = nL ∧ ls.length = nL ∧ lv_wf lsm ∧ ∀ (i : Nat) (a : AV), ls[i]? = some (some a) → lsm[i]? = some (Slot.val (cv B a)) ∧ okV a
abbrev PT : Type := Option AV → AH → Prop
def QQ (g : GL) (M : MD) (P : PT) : Array Value → State → Outcome → State → Prop := fun _ st oc t => (∃ (r : Option AV) (h' : AH), oc = .returned (r.map (cv g.2.2.2)) ∧ (∀ a, r = some a → okV a) ∧ P r h' ∧ World g h' st.heap.size M.2.2.2.2.cells t.heap ∧ KK g t) ∧ va_F (fun q => g.2.2.2 ≤ q) st t
def Wv (g : GL) (M : MD) (kc ks pc : Nat) (ls : List (Option AV)) (st : List AV) (h : AH) (P : PT) : Prop :=
  ∀ (p : Program) (e : Env) (s : State) (m : MethodId) (args : Array Value) (below : List Frame) (meth : Method) (c : Code) (H : Heap) (locs : List Loc) (lsm : Array Slot),
    Ctx g M p s m args meth c → World g h s.heap.size kc H → va_S (fun q => g.2.2.2 ≤ q) s.heap H locs → Lh g.2.2.2 lsm M.2.2.1 ls → (∀ a ∈ st, okV a) →
    W p g.1 e M.2.2.2.2 s m args below meth c H locs kc ks (MQ below (QQ g M P) args s M.2.2.2.2.cells M.2.2.2.2.slots (fun q => g.2.2.2 ≤ q)) (F0 m pc lsm (st.map (cv g.2.2.2)))
def wsM (M : MD) : List Cond := .code M.1 M.2.1 M.2.2.1 M.2.2.2.1 :: gw_tbl
def PP (g : GL) (as : List AV) (h : AH) : State → Prop := fun U => (∀ a ∈ as, okV a) ∧ World g h U.heap.size 0 U.heap ∧ KK g U
def Cv (g : GL) (M : MD) (as : List AV) (h : AH) (P : PT) : Prop :=
  Met g.1 M.1 (wsM M) M.2.2.2.2 (va_Pc (as.map (cv g.2.2.2)) (PP g as h)) (QQ g M P) M.2.2.2.2.cells M.2.2.2.2.slots (fun q => g.2.2.2 ≤ q)
/-! numbers -/
theorem ti {a : Int} (h : inI a) : (Int32.ofInt a).toInt = a := by
  rw [Int32.toInt_ofInt]
  exact Int.bmod_eq_of_le (by have := h.1; simp; omega) (by have := h.2; simp; omega)
theorem tl {a : Int} (h : inL a) : (Int64.ofInt a).toInt = a := by
  rw [Int64.toInt_ofInt]
  exact Int.bmod_eq_of_le (by have := h.1; simp; omega) (by have := h.2; simp; omega)
theorem ci_lt {a b : Int} (ha : inI a) (hb : inI b) : Int32.ofInt a < Int32.ofInt b ↔ a < b := by
  rw [Int32.lt_iff_toInt_lt, ti ha, ti hb]
theorem ci_le {a b : Int} (ha : inI a) (hb : inI b) : Int32.ofInt a ≤ Int32.ofInt b ↔ a ≤ b := by
  rw [Int32.le_iff_toInt_le, ti ha, ti hb]
theorem ci_eq {a b : Int} (ha : inI a) (hb : inI b) : Int32.ofInt a = Int32.ofInt b ↔ a = b := by
  rw [← Int32.toInt_inj, ti ha, ti hb]
theorem ci_0 : inI 0 := by constructor <;> decide
theorem ci_lt0 {a : Int} (ha : inI a) : Int32.ofInt a < 0 ↔ a < 0 := ci_lt (b := 0) ha ci_0
theorem ci_le0 {a : Int} (ha : inI a) : Int32.ofInt a ≤ 0 ↔ a ≤ 0 := ci_le (b := 0) ha ci_0
theorem ci_0lt {a : Int} (ha : inI a) : 0 < Int32.ofInt a ↔ 0 < a := ci_lt (a := 0) ci_0 ha
theorem ci_0le {a : Int} (ha : inI a) : 0 ≤ Int32.ofInt a ↔ 0 ≤ a := ci_le (a := 0) ci_0 ha
theorem ci_eq0 {a : Int} (ha : inI a) : Int32.ofInt a = 0 ↔ a = 0 := ci_eq (b := 0) ha ci_0
theorem ci_ix {i : Int} {n : Nat} (h0 : 0 ≤ i) (h1 : i < n) (hi : inI i) : vp_in (Int32.ofInt i) n := by
  rw [vp_in_iff, ti hi]
  exact ⟨h0, h1⟩
theorem ci_cl {i : Int} (hi : inI i) : (Int32.ofInt i).toNatClampNeg = i.toNat := by
  show (Int32.ofInt i).toInt.toNat = _
  rw [ti hi]
theorem inI_toInt (x : Int32) : inI x.toInt := ⟨by have := Int32.le_toInt x; simpa using this, by have := Int32.toInt_lt x; simpa using this⟩
theorem ofInt_toInt32 (x : Int32) : Int32.ofInt x.toInt = x := by simp
/-! the world's list -/
theorem wsH_at (K : ClassId × ClassId × ClassId) (B : Nat) (h : AH) {c : Nat} {kl : Nat × Nat} (hc : h.1[c]? = some kl) : (wsH K B h)[c]? = some (B + c, wcell K B kl (h.2.1 c) (h.2.2 c)) := by
  have hl := (List.getElem?_eq_some_iff.mp hc).1
  unfold wsH
  rw [List.getElem?_map, List.getElem?_range hl]
  simp [List.getD, hc]
theorem wsH_inv {K : ClassId × ClassId × ClassId} {B : Nat} {h : AH} {k : Nat} {q : Nat × va_E} (hq : (wsH K B h)[k]? = some q) : k < h.1.length ∧ q.1 = B + k := by
  unfold wsH at hq
  rw [List.getElem?_map] at hq
  by_cases hl : k < h.1.length
  · rw [List.getElem?_range hl] at hq
    simp at hq
    exact ⟨hl, by rw [← hq]⟩
  · rw [List.getElem?_eq_none (by simp; omega)] at hq
    simp at hq
theorem wsH_D (K : ClassId × ClassId × ClassId) (B : Nat) (h : AH) : va_D (fun q => B ≤ q) (wsH K B h) := by
  refine ⟨fun i j p q hi hj he => ?_, fun k q hk => ?_⟩
  · have h1 := (wsH_inv hi).2
    have h2 := (wsH_inv hj).2
    omega
  · have h1 := (wsH_inv hk).2
    show B ≤ q.1
    omega
theorem wsH_set (K : ClassId × ClassId × ClassId) (B : Nat) (sh : List (Nat × Nat)) (r r' : Nat → Nat → Option Nat) (v v' : Nat → Nat → Int) {c : Nat} {kl : Nat × Nat} (hc : sh[c]? = some kl) (hr : ∀ d, d ≠ c → r' d = r d) (hv : ∀ d, d ≠ c → v' d = v d) :
    (wsH K B (sh, r, v)).set c (B + c, wcell K B kl (r' c) (v' c)) = wsH K B (sh, r', v') := by
  have hl := (List.getElem?_eq_some_iff.mp hc).1
  apply List.ext_getElem?
  intro i
  by_cases hi : i = c
  · subst hi
    rw [List.getElem?_set_self (by unfold wsH; simp; exact hl), wsH_at K B (sh, r', v') hc]
  · rw [List.getElem?_set_ne (Ne.symm hi)]
    by_cases hb : i < sh.length
    · have hs : sh[i]? = some sh[i] := List.getElem?_eq_getElem hb
      rw [wsH_at K B (sh, r, v) hs, wsH_at K B (sh, r', v') hs]
      simp only [hr i hi, hv i hi]
    · rw [List.getElem?_eq_none (by unfold wsH; simp; omega), List.getElem?_eq_none (by unfold wsH; simp; omega)]
theorem wsH_push (K : ClassId × ClassId × ClassId) (B : Nat) (sh : List (Nat × Nat)) (r r' : Nat → Nat → Option Nat) (v v' : Nat → Nat → Int) (kl : Nat × Nat) (hr : ∀ d, d < sh.length → r' d = r d) (hv : ∀ d, d < sh.length → v' d = v d) :
    wsH K B (sh, r, v) ++ [(B + sh.length, wcell K B kl (r' sh.length) (v' sh.length))] = wsH K B (sh ++ [kl], r', v') := by
  apply List.ext_getElem?
  intro i
  have hlen : (wsH K B (sh, r, v)).length = sh.length := by unfold wsH; simp
  rcases Nat.lt_trichotomy i sh.length with hb | hb | hb
  · rw [List.getElem?_append_left (by rw [hlen]; exact hb)]
    have hs : sh[i]? = some sh[i] := List.getElem?_eq_getElem hb
    have hs2 : (sh ++ [kl])[i]? = some sh[i] := by rw [List.getElem?_append_left hb]; exact hs
    rw [wsH_at K B (sh, r, v) hs, wsH_at K B (sh ++ [kl], r', v') hs2]
    simp only [hr i hb, hv i hb]
  · subst hb
    rw [List.getElem?_append_right (by rw [hlen]; exact Nat.le_refl _), hlen, Nat.sub_self]
    have hs2 : (sh ++ [kl])[sh.length]? = some kl := by simp
    rw [wsH_at K B (sh ++ [kl], r', v') hs2]
    rfl
  · rw [List.getElem?_eq_none (by simp [hlen]; omega), List.getElem?_eq_none (by unfold wsH; simp; omega)]
def up (v : Nat → Nat → Int) (c k : Nat) (z : Int) : Nat → Nat → Int := fun c' => if c' = c then (fun k' => if k' = k then z else v c k') else v c'
def upO (r : Nat → Nat → Option Nat) (c k : Nat) (z : Option Nat) : Nat → Nat → Option Nat := fun c' => if c' = c then (fun k' => if k' = k then z else r c k') else r c'
def upR (v : Nat → Nat → Int) (c : Nat) (f : Nat → Int) : Nat → Nat → Int := fun c' => if c' = c then f else v c'
theorem up_c (v : Nat → Nat → Int) (c k : Nat) (z : Int) : up v c k z c = fun k' => if k' = k then z else v c k' := by simp [up]
theorem up_n (v : Nat → Nat → Int) {c d : Nat} (k : Nat) (z : Int) (h : d ≠ c) : up v c k z d = v d := by simp [up, h]
theorem upO_c (v : Nat → Nat → Option Nat) (c k : Nat) (z : Option Nat) : upO v c k z c = fun k' => if k' = k then z else v c k' := by simp [upO]
theorem upO_n (v : Nat → Nat → Option Nat) {c d : Nat} (k : Nat) (z : Option Nat) (h : d ≠ c) : upO v c k z d = v d := by simp [upO, h]
theorem up_rng {v : Nat → Nat → Int} {c k : Nat} {z : Int} (h : ∀ c k, inI (v c k)) (hz : inI z) : ∀ c' k', inI (up v c k z c' k') := by
  intro c' k'
  unfold up
  split
  · dsimp only
    split
    · exact hz
    · exact h _ _
  · exact h _ _
/-! locals -/
theorem Lh.set {B nL : Nat} {lsm lsm' : Array Slot} {ls : List (Option AV)} {i : Nat} {a : AV} (h : Lh B lsm nL ls) (ha : okV a) (hz : ∀ b, i ≠ 0 → ls[i - 1]? = some (some b) → catA b = 1) (lv' : List (Nat × Value))
    (hl' : (i, cv B a) :: ((List.range nL).filterMap (fun j => match ls[j]? with | some (some b) => some (j, cv B b) | _ => none)).filter (fun q => !(q.1 == i) && !(q.1 + 1 == i && q.2.category == 2)) = lv') (h2 : lv_has lsm' nL lv') : Lh B lsm' nL (ls.set i (some a)) := by
  obtain ⟨h3, h4, h5, h6⟩ := h
  obtain ⟨g1, g2, g3⟩ := h2
  refine ⟨g1, by rw [List.length_set]; exact h4, g2, fun j b hj => ?_⟩
  by_cases hij : i = j
  · subst hij
    have hlt : i < ls.length := by
      have := (List.getElem?_eq_some_iff.mp hj).1
      rw [List.length_set] at this
      exact this
    rw [List.getElem?_set_self hlt] at hj
    have hab : a = b := by simpa using hj
    subst hab
    exact ⟨g3 (i, cv B a) (by rw [← hl']; exact List.mem_cons_self), ha⟩
  · rw [List.getElem?_set_ne hij] at hj
    refine ⟨g3 (j, cv B b) ?_, (h6 j b hj).2⟩
    rw [← hl']
    refine List.mem_cons_of_mem _ (List.mem_filter.mpr ⟨List.mem_filterMap.mpr ⟨j, List.mem_range.mpr (by rw [← h4]; exact (List.getElem?_eq_some_iff.mp hj).1), by rw [hj]⟩, ?_⟩)
    have e1 : (j == i) = false := by simp; omega
    simp only [e1, Bool.not_false, Bool.true_and]
    by_cases hj1 : j + 1 = i
    · have hc := hz b (by omega) (by rw [← hj1]; simpa using hj)
      have : (cv B b).category = 1 := by
        obtain z | z | z := b
        · rfl
        · cases hc
        · cases z <;> rfl
      simp [this]
    · have e2 : (j + 1 == i) = false := by simp; omega
      simp [e2]
theorem Lh.has {B nL : Nat} {lsm : Array Slot} {ls : List (Option AV)} (h : Lh B lsm nL ls) : lv_has lsm nL ((List.range nL).filterMap (fun j => match ls[j]? with | some (some b) => some (j, cv B b) | _ => none)) := by
  refine ⟨h.1, h.2.2.1, fun q hq => ?_⟩
  obtain ⟨j, hj, he⟩ := List.mem_filterMap.mp hq
  split at he
  · rename_i b hb
    cases he
    exact (h.2.2.2 j b hb).1
  · cases he

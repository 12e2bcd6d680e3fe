/-! ===== the law: both sides answer alike ===== -/
def LI (S : St) (rf : Nat → Nat → Option Nat) (v : Nat → Nat → Int) : Prop := Rok rf ∧ RokM rf ∧ RC S rf v ∧ RM S v ∧ SV S
theorem SHA_ext : ExtM (SHc ++ SHm) := fun _ _ h => h
theorem RM.hi {S : St} {v u : Nat → Nat → Int} (h : RM S v) (e : ∀ d, 70 ≤ d → u d = v d) : RM S u := h.cong (fun d h1 _ => e d (by omega)) (by rw [e 70 (by decide)]) (by rw [e 70 (by decide)]) (by rw [e 70 (by decide)])
theorem RC.lo {S : St} {rf : Nat → Nat → Option Nat} {v u : Nat → Nat → Int} (h : RC S rf v) (h6 : S.2.1.length ≤ 6) (e : ∀ d, d < 70 → u d = v d) : RC S rf u := h.cong h6 (fun d h1 _ _ _ _ _ _ => e d h1) (by rw [e 1 (by decide)])
theorem RC.rf {S : St} {rf rf2 : Nat → Nat → Option Nat} {v : Nat → Nat → Int} (h : RC S rf v) (e : rf2 18 = rf 18) : RC S rf2 v := by unfold RC; rw [e]; exact h
section LAW
variable {g : GL} {rf : Nat → Nat → Option Nat} {v : Nat → Nat → Int} {S : St}
theorem uC {M' : MD} {as : List AV} {z : Int} (k : Cv g M' as (SHc ++ SHm, rf, v) (retI z (SHc ++ SHm, rf, v))) (hI : LI S rf v) : Cv g M' as (SHc ++ SHm, rf, v) (cP (z, S) (SHc ++ SHm) rf v) := x_cp k (fun r h' hp => by obtain ⟨rfl, rfl⟩ := hp; exact cP_same hI.1 hI.2.2.1 hI.2.2.2.2 rfl rfl)
theorem uW {M' : MD} {as : List AV} {z : Int} (k : Cv g M' as (SHc ++ SHm, rf, v) (fun r h1 => r = some (aI z) ∧ ∃ u, h1 = (SHc ++ SHm, rf, u) ∧ ∀ d, d ≠ 16 → d ≠ 17 → u d = v d)) (hI : LI S rf v) : Cv g M' as (SHc ++ SHm, rf, v) (cP (z, S) (SHc ++ SHm) rf v) := x_cp k (fun r h' hp => by
  obtain ⟨rfl, u, rfl, e⟩ := hp
  exact ⟨rfl, rf, u, rfl, hI.1, hI.2.2.1.cong hI.2.2.2.2.2.1 (fun d _ _ _ _ _ h1 h2 => e d h1 h2) (by rw [e 1 (by decide) (by decide)]), hI.2.2.2.2, fun d hd => ⟨e d (by omega) (by omega), rfl⟩⟩)
theorem uM {M' : MD} {as : List AV} {z : Int} (k : Cv g M' as (SHc ++ SHm, rf, v) (retI z (SHc ++ SHm, rf, v))) (hR : RM S v) : Cv g M' as (SHc ++ SHm, rf, v) (mP (z, S) (SHc ++ SHm) rf v) := x_cp k (fun r h' hp => by obtain ⟨rfl, rfl⟩ := hp; exact mP_same hR rfl rfl)
theorem uS {M' : MD} {as : List AV} {z : Int} (k : Cv g M' as (SHc ++ SHm, rf, v) (sP z (SHc ++ SHm) rf v)) (hR : RM S v) : Cv g M' as (SHc ++ SHm, rf, v) (mP (z, S) (SHc ++ SHm) rf v) := x_cp k (fun r h' hp => by
  obtain ⟨rfl, u, rfl, e⟩ := hp
  exact ⟨rfl, u, rfl, e.rm hR, e.1⟩)

set_option maxHeartbeats 4000000 in
set_option maxRecDepth 100000 in
theorem law_loop {P : LQ} {kc ks : Nat} (hkc : kc ≤ mL_law.2.2.2.2.cells) (hks : ks ≤ mL_law.2.2.2.2.slots) (hL : P.2.1 ≤ 2048) : ∀ (f i : Nat) (S : St) (rf : Nat → Nat → Option Nat) (v : Nat → Nat → Int), P.2.1 + 4 - i ≤ f → i ≤ 3000 → LI S rf v → Wl g mL_law kc ks 18 [none, some (aR 0), some (aR 70), some (aI ((i : Int)))] [] (SHc ++ SHm, rf, v) P := by
  intro f
  induction f with
  | zero =>
    intro i S rf v hf hi3 hI
    refine y_il_n (q := 19) dL_law_18 rfl rfl ?_
    refine y_len (q := 21) dL_law_19 dL_law_20 rfl ?_
    refine y_ic (q := 22) dL_law_21 rfl rfl ?_
    refine y_sub (q := 23) dL_law_22 rfl ⟨by omega, by omega⟩ ?_
    refine y_ic_gt (t := 614) (q := 26) dL_law_23 rfl rfl (fun _ => ?_) (fun c_23 => absurd (by omega) c_23)
    refine y_ic (q := 615) dL_law_614 rfl rfl ?_
    exact y_ret dL_law_615 hkc hks
  | succ f ih =>
    intro i S rf v hf hi3 hI
    obtain ⟨hr, hrm, hRC, hRM, hV⟩ := id hI
    have hE : Ext (SHc ++ SHm) := SHA_ext.ext
    refine y_il_n (q := 19) dL_law_18 rfl rfl ?_
    refine y_len (q := 21) dL_law_19 dL_law_20 rfl ?_
    refine y_ic (q := 22) dL_law_21 rfl rfl ?_
    refine y_sub (q := 23) dL_law_22 rfl ⟨by omega, by omega⟩ ?_
    refine y_ic_gt (t := 614) (q := 26) dL_law_23 rfl rfl (fun _ => ?_) (fun c_23 => ?_)
    · refine y_ic (q := 615) dL_law_614 rfl rfl ?_
      exact y_ret dL_law_615 hkc hks
    · have nx : ∀ (S2 : St) (rf2 : Nat → Nat → Option Nat) (w : Nat → Nat → Int), LI S2 rf2 w → Wl g mL_law kc ks 608 [none, some (aR 0), some (aR 70), some (aI ((i : Int)))] [] (SHc ++ SHm, rf2, w) P := by
        intro S2 rf2 w hI2
        refine y_ii (i := 3) (q := 611) (z := (i : Int)) dL_law_608 (by decide) rfl rfl ⟨by omega, by omega⟩ (fun b _ hb => by cases hb; rfl) ?_
        refine y_goto (t := 18) dL_law_611 rfl ?_
        have h9 := ih (i + 4) S2 rf2 w (by omega) (by omega) hI2
        exact h9
      refine y_scr0 (q := 29) (i := i) dL_law_26 dL_law_27 dL_law_28 rfl rfl (by omega) ?_
      refine y_bi (q := 31) dL_law_29 rfl rfl ?_
      refine y_andG (q := 32) dL_law_31 rfl ?_
      generalize (Int32.ofInt (P.2.2 i).toInt &&& Int32.ofInt 31).toInt = z
      rcases (show (z < 0 ∨ 19 < z) ∨ z = 0 ∨ z = 1 ∨ z = 2 ∨ z = 3 ∨ z = 4 ∨ z = 5 ∨ z = 6 ∨ z = 7 ∨ z = 8 ∨ z = 9 ∨ z = 10 ∨ z = 11 ∨ z = 12 ∨ z = 13 ∨ z = 14 ∨ z = 15 ∨ z = 16 ∨ z = 17 ∨ z = 18 ∨ z = 19 by omega) with hz | rfl | rfl | rfl | rfl | rfl | rfl | rfl | rfl | rfl | rfl | rfl | rfl | rfl | rfl | rfl | rfl | rfl | rfl | rfl | rfl
      · refine y_tabO (t := 608) dL_law_32 hz rfl ?_
        exact nx S rf v hI
      · refine y_tabI (t := 128) (off := 96) dL_law_32 (by decide) (by decide) rfl rfl ?_
        refine y_al_n (q := 129) dL_law_128 rfl rfl ?_
        refine y_scr (q := 134) (i := i) (n := 1) dL_law_129 dL_law_130 dL_law_131 dL_law_132 dL_law_133 rfl rfl (by omega) ?_
        refine y_V (q := 137) (ci := 6) dL_law_134 rfl kL_law_13 (k_type hE hr hRC hV) rfl rfl rfl (by decide) rfl (Nat.le_of_ble_eq_true rfl) ⟨rfl, rfl⟩ ⟨hkc, hks⟩ (fun r1 h1 hp => ?_)
        obtain ⟨rfl, rf2, u, rfl, hr2, hRC2, hV2, hhi⟩ := hp
        have hRMu := hRM.hi (fun d hd => (hhi d hd).1)
        have hrm2 : RokM rf2 := fun k d hk => by rw [(hhi 70 (by decide)).2]; exact hrm k d hk
        refine y_al_n (q := 138) dL_law_137 rfl rfl ?_
        refine y_scr (q := 143) (i := i) (n := 1) dL_law_138 dL_law_139 dL_law_140 dL_law_141 dL_law_142 rfl rfl (by omega) ?_
        refine y_V (q := 146) (ci := 7) dL_law_143 rfl kL_law_17 (m_type SHA_ext hrm2 hRMu hV) rfl rfl rfl (by decide) rfl (Nat.le_of_ble_eq_true rfl) ⟨rfl, rfl⟩ ⟨hkc, hks⟩ (fun r1 h1 hp => ?_)
        obtain ⟨rfl, w, rfl, hRM2, hlo⟩ := hp
        refine y_ic_eq (t := 608) (q := 149) dL_law_146 rfl rfl (fun _ => ?_) (fun hne => absurd rfl hne)
        exact nx _ rf2 w ⟨hr2, hrm2, hRC2.lo hV2.2.1 hlo, hRM2, hV2⟩
      · refine y_tabI (t := 151) (off := 119) dL_law_32 (by decide) (by decide) rfl rfl ?_
        refine y_al_n (q := 152) dL_law_151 rfl rfl ?_
        refine y_V (q := 155) (ci := 6) dL_law_152 rfl kL_law_18 (k_clear hE hr hRC hV) rfl rfl rfl (by decide) rfl (Nat.le_of_ble_eq_true rfl) ⟨rfl, rfl⟩ ⟨hkc, hks⟩ (fun r1 h1 hp => ?_)
        obtain ⟨rfl, rf2, u, rfl, hr2, hRC2, hV2, hhi⟩ := hp
        have hRMu := hRM.hi (fun d hd => (hhi d hd).1)
        have hrm2 : RokM rf2 := fun k d hk => by rw [(hhi 70 (by decide)).2]; exact hrm k d hk
        refine y_al_n (q := 156) dL_law_155 rfl rfl ?_
        refine y_V (q := 159) (ci := 7) dL_law_156 rfl kL_law_22 (m_clear SHA_ext hrm2 hRMu hV) rfl rfl rfl (by decide) rfl (Nat.le_of_ble_eq_true rfl) ⟨rfl, rfl⟩ ⟨hkc, hks⟩ (fun r1 h1 hp => ?_)
        obtain ⟨rfl, w, rfl, hRM2, hlo⟩ := hp
        refine y_ic_eq (t := 608) (q := 162) dL_law_159 rfl rfl (fun _ => ?_) (fun hne => absurd rfl hne)
        exact nx _ rf2 w ⟨hr2, hrm2, hRC2.lo hV2.2.1 hlo, hRM2, hV2⟩
      · refine y_tabI (t := 164) (off := 132) dL_law_32 (by decide) (by decide) rfl rfl ?_
        refine y_al_n (q := 165) dL_law_164 rfl rfl ?_
        refine y_V (q := 168) (ci := 6) dL_law_165 rfl kL_law_23 (k_tells hE hr hRC hV) rfl rfl rfl (by decide) rfl (Nat.le_of_ble_eq_true rfl) ⟨rfl, rfl⟩ ⟨hkc, hks⟩ (fun r1 h1 hp => ?_)
        obtain ⟨rfl, rf2, u, rfl, hr2, hRC2, hV2, hhi⟩ := hp
        have hRMu := hRM.hi (fun d hd => (hhi d hd).1)
        have hrm2 : RokM rf2 := fun k d hk => by rw [(hhi 70 (by decide)).2]; exact hrm k d hk
        refine y_al_n (q := 169) dL_law_168 rfl rfl ?_
        refine y_V (q := 172) (ci := 7) dL_law_169 rfl kL_law_26 (m_tells SHA_ext hrm2 hRMu hV) rfl rfl rfl (by decide) rfl (Nat.le_of_ble_eq_true rfl) ⟨rfl, rfl⟩ ⟨hkc, hks⟩ (fun r1 h1 hp => ?_)
        obtain ⟨rfl, w, rfl, hRM2, hlo⟩ := hp
        refine y_ic_eq (t := 608) (q := 175) dL_law_172 rfl rfl (fun _ => ?_) (fun hne => absurd rfl hne)
        exact nx _ rf2 w ⟨hr2, hrm2, hRC2.lo hV2.2.1 hlo, hRM2, hV2⟩
      · refine y_tabI (t := 177) (off := 145) dL_law_32 (by decide) (by decide) rfl rfl ?_
        refine y_al_n (q := 178) dL_law_177 rfl rfl ?_
        refine y_scr (q := 183) (i := i) (n := 1) dL_law_178 dL_law_179 dL_law_180 dL_law_181 dL_law_182 rfl rfl (by omega) ?_
        refine y_V (q := 186) (ci := 6) dL_law_183 rfl kL_law_27 (k_sends hE hr hRC hV) rfl rfl rfl (by decide) rfl (Nat.le_of_ble_eq_true rfl) ⟨rfl, rfl⟩ ⟨hkc, hks⟩ (fun r1 h1 hp => ?_)
        obtain ⟨rfl, rf2, u, rfl, hr2, hRC2, hV2, hhi⟩ := hp
        have hRMu := hRM.hi (fun d hd => (hhi d hd).1)
        have hrm2 : RokM rf2 := fun k d hk => by rw [(hhi 70 (by decide)).2]; exact hrm k d hk
        refine y_al_n (q := 187) dL_law_186 rfl rfl ?_
        refine y_scr (q := 192) (i := i) (n := 1) dL_law_187 dL_law_188 dL_law_189 dL_law_190 dL_law_191 rfl rfl (by omega) ?_
        refine y_V (q := 195) (ci := 7) dL_law_192 rfl kL_law_30 (m_sends SHA_ext hrm2 hRMu hV) rfl rfl rfl (by decide) rfl (Nat.le_of_ble_eq_true rfl) ⟨rfl, rfl⟩ ⟨hkc, hks⟩ (fun r1 h1 hp => ?_)
        obtain ⟨rfl, w, rfl, hRM2, hlo⟩ := hp
        refine y_ic_eq (t := 608) (q := 198) dL_law_195 rfl rfl (fun _ => ?_) (fun hne => absurd rfl hne)
        exact nx _ rf2 w ⟨hr2, hrm2, hRC2.lo hV2.2.1 hlo, hRM2, hV2⟩
      · refine y_tabI (t := 200) (off := 168) dL_law_32 (by decide) (by decide) rfl rfl ?_
        refine y_al_n (q := 201) dL_law_200 rfl rfl ?_
        refine y_scr (q := 206) (i := i) (n := 1) dL_law_201 dL_law_202 dL_law_203 dL_law_204 dL_law_205 rfl rfl (by omega) ?_
        refine y_V (q := 209) (ci := 6) dL_law_206 rfl kL_law_31 (k_flips hE hr hRC hV) rfl rfl rfl (by decide) rfl (Nat.le_of_ble_eq_true rfl) ⟨rfl, rfl⟩ ⟨hkc, hks⟩ (fun r1 h1 hp => ?_)
        obtain ⟨rfl, rf2, u, rfl, hr2, hRC2, hV2, hhi⟩ := hp
        have hRMu := hRM.hi (fun d hd => (hhi d hd).1)
        have hrm2 : RokM rf2 := fun k d hk => by rw [(hhi 70 (by decide)).2]; exact hrm k d hk
        refine y_al_n (q := 210) dL_law_209 rfl rfl ?_
        refine y_scr (q := 215) (i := i) (n := 1) dL_law_210 dL_law_211 dL_law_212 dL_law_213 dL_law_214 rfl rfl (by omega) ?_
        refine y_V (q := 218) (ci := 7) dL_law_215 rfl kL_law_34 (m_flips SHA_ext hrm2 hRMu hV) rfl rfl rfl (by decide) rfl (Nat.le_of_ble_eq_true rfl) ⟨rfl, rfl⟩ ⟨hkc, hks⟩ (fun r1 h1 hp => ?_)
        obtain ⟨rfl, w, rfl, hRM2, hlo⟩ := hp
        refine y_ic_eq (t := 608) (q := 221) dL_law_218 rfl rfl (fun _ => ?_) (fun hne => absurd rfl hne)
        exact nx _ rf2 w ⟨hr2, hrm2, hRC2.lo hV2.2.1 hlo, hRM2, hV2⟩
      · refine y_tabI (t := 223) (off := 191) dL_law_32 (by decide) (by decide) rfl rfl ?_
        refine y_al_n (q := 224) dL_law_223 rfl rfl ?_
        refine y_V (q := 227) (ci := 6) dL_law_224 rfl kL_law_35 (k_undo hE hr hRC hV) rfl rfl rfl (by decide) rfl (Nat.le_of_ble_eq_true rfl) ⟨rfl, rfl⟩ ⟨hkc, hks⟩ (fun r1 h1 hp => ?_)
        obtain ⟨rfl, rf2, u, rfl, hr2, hRC2, hV2, hhi⟩ := hp
        have hRMu := hRM.hi (fun d hd => (hhi d hd).1)
        have hrm2 : RokM rf2 := fun k d hk => by rw [(hhi 70 (by decide)).2]; exact hrm k d hk
        refine y_al_n (q := 228) dL_law_227 rfl rfl ?_
        refine y_V (q := 231) (ci := 7) dL_law_228 rfl kL_law_38 (m_undo SHA_ext hrm2 hRMu hV) rfl rfl rfl (by decide) rfl (Nat.le_of_ble_eq_true rfl) ⟨rfl, rfl⟩ ⟨hkc, hks⟩ (fun r1 h1 hp => ?_)
        obtain ⟨rfl, w, rfl, hRM2, hlo⟩ := hp
        refine y_ic_eq (t := 608) (q := 234) dL_law_231 rfl rfl (fun _ => ?_) (fun hne => absurd rfl hne)
        exact nx _ rf2 w ⟨hr2, hrm2, hRC2.lo hV2.2.1 hlo, hRM2, hV2⟩
      · refine y_tabI (t := 236) (off := 204) dL_law_32 (by decide) (by decide) rfl rfl ?_
        refine y_al_n (q := 237) dL_law_236 rfl rfl ?_
        refine y_scr (q := 242) (i := i) (n := 1) dL_law_237 dL_law_238 dL_law_239 dL_law_240 dL_law_241 rfl rfl (by omega) ?_
        refine y_scr (q := 247) (i := i) (n := 2) dL_law_242 dL_law_243 dL_law_244 dL_law_245 dL_law_246 rfl rfl (by omega) ?_
        refine y_V (q := 250) (ci := 6) dL_law_247 rfl kL_law_39 (uC (k_step hE hr hRC hV) hI) rfl rfl rfl (by decide) rfl (Nat.le_of_ble_eq_true rfl) ⟨rfl, rfl⟩ ⟨hkc, hks⟩ (fun r1 h1 hp => ?_)
        obtain ⟨rfl, rf2, u, rfl, hr2, hRC2, hV2, hhi⟩ := hp
        have hRMu := hRM.hi (fun d hd => (hhi d hd).1)
        have hrm2 : RokM rf2 := fun k d hk => by rw [(hhi 70 (by decide)).2]; exact hrm k d hk
        refine y_al_n (q := 251) dL_law_250 rfl rfl ?_
        refine y_scr (q := 256) (i := i) (n := 1) dL_law_251 dL_law_252 dL_law_253 dL_law_254 dL_law_255 rfl rfl (by omega) ?_
        refine y_scr (q := 261) (i := i) (n := 2) dL_law_256 dL_law_257 dL_law_258 dL_law_259 dL_law_260 rfl rfl (by omega) ?_
        refine y_V (q := 264) (ci := 7) dL_law_261 rfl kL_law_43 (uM (m_step SHA_ext hrm2 hRMu hV) hRMu) rfl rfl rfl (by decide) rfl (Nat.le_of_ble_eq_true rfl) ⟨rfl, rfl⟩ ⟨hkc, hks⟩ (fun r1 h1 hp => ?_)
        obtain ⟨rfl, w, rfl, hRM2, hlo⟩ := hp
        refine y_ic_eq (t := 608) (q := 267) dL_law_264 rfl rfl (fun _ => ?_) (fun hne => absurd rfl hne)
        exact nx _ rf2 w ⟨hr2, hrm2, hRC2.lo hV2.2.1 hlo, hRM2, hV2⟩
      · refine y_tabI (t := 269) (off := 237) dL_law_32 (by decide) (by decide) rfl rfl ?_
        refine y_al_n (q := 270) dL_law_269 rfl rfl ?_
        refine y_scr (q := 275) (i := i) (n := 1) dL_law_270 dL_law_271 dL_law_272 dL_law_273 dL_law_274 rfl rfl (by omega) ?_
        refine y_scr (q := 280) (i := i) (n := 2) dL_law_275 dL_law_276 dL_law_277 dL_law_278 dL_law_279 rfl rfl (by omega) ?_
        refine y_scr (q := 285) (i := i) (n := 3) dL_law_280 dL_law_281 dL_law_282 dL_law_283 dL_law_284 rfl rfl (by omega) ?_
        refine y_V (q := 288) (ci := 6) dL_law_285 rfl kL_law_44 (uC (k_arc hE hr hRC hV) hI) rfl rfl rfl (by decide) rfl (Nat.le_of_ble_eq_true rfl) ⟨rfl, rfl⟩ ⟨hkc, hks⟩ (fun r1 h1 hp => ?_)
        obtain ⟨rfl, rf2, u, rfl, hr2, hRC2, hV2, hhi⟩ := hp
        have hRMu := hRM.hi (fun d hd => (hhi d hd).1)
        have hrm2 : RokM rf2 := fun k d hk => by rw [(hhi 70 (by decide)).2]; exact hrm k d hk
        refine y_al_n (q := 289) dL_law_288 rfl rfl ?_
        refine y_scr (q := 294) (i := i) (n := 1) dL_law_289 dL_law_290 dL_law_291 dL_law_292 dL_law_293 rfl rfl (by omega) ?_
        refine y_scr (q := 299) (i := i) (n := 2) dL_law_294 dL_law_295 dL_law_296 dL_law_297 dL_law_298 rfl rfl (by omega) ?_
        refine y_scr (q := 304) (i := i) (n := 3) dL_law_299 dL_law_300 dL_law_301 dL_law_302 dL_law_303 rfl rfl (by omega) ?_
        refine y_V (q := 307) (ci := 7) dL_law_304 rfl kL_law_48 (uS (m_arc SHA_ext hrm2 hRMu hV) hRMu) rfl rfl rfl (by decide) rfl (Nat.le_of_ble_eq_true rfl) ⟨rfl, rfl⟩ ⟨hkc, hks⟩ (fun r1 h1 hp => ?_)
        obtain ⟨rfl, w, rfl, hRM2, hlo⟩ := hp
        refine y_ic_eq (t := 608) (q := 310) dL_law_307 rfl rfl (fun _ => ?_) (fun hne => absurd rfl hne)
        exact nx _ rf2 w ⟨hr2, hrm2, hRC2.lo hV2.2.1 hlo, hRM2, hV2⟩
      · refine y_tabI (t := 312) (off := 280) dL_law_32 (by decide) (by decide) rfl rfl ?_
        refine y_al_n (q := 313) dL_law_312 rfl rfl ?_
        refine y_scr (q := 318) (i := i) (n := 1) dL_law_313 dL_law_314 dL_law_315 dL_law_316 dL_law_317 rfl rfl (by omega) ?_
        refine y_scr (q := 323) (i := i) (n := 2) dL_law_318 dL_law_319 dL_law_320 dL_law_321 dL_law_322 rfl rfl (by omega) ?_
        refine y_V (q := 326) (ci := 6) dL_law_323 rfl kL_law_49 (uC (k_state hE hr hRC hV) hI) rfl rfl rfl (by decide) rfl (Nat.le_of_ble_eq_true rfl) ⟨rfl, rfl⟩ ⟨hkc, hks⟩ (fun r1 h1 hp => ?_)
        obtain ⟨rfl, rf2, u, rfl, hr2, hRC2, hV2, hhi⟩ := hp
        have hRMu := hRM.hi (fun d hd => (hhi d hd).1)
        have hrm2 : RokM rf2 := fun k d hk => by rw [(hhi 70 (by decide)).2]; exact hrm k d hk
        refine y_al_n (q := 327) dL_law_326 rfl rfl ?_
        refine y_scr (q := 332) (i := i) (n := 1) dL_law_327 dL_law_328 dL_law_329 dL_law_330 dL_law_331 rfl rfl (by omega) ?_
        refine y_scr (q := 337) (i := i) (n := 2) dL_law_332 dL_law_333 dL_law_334 dL_law_335 dL_law_336 rfl rfl (by omega) ?_
        refine y_V (q := 340) (ci := 7) dL_law_337 rfl kL_law_52 (uS (m_state SHA_ext hrm2 hRMu hV) hRMu) rfl rfl rfl (by decide) rfl (Nat.le_of_ble_eq_true rfl) ⟨rfl, rfl⟩ ⟨hkc, hks⟩ (fun r1 h1 hp => ?_)
        obtain ⟨rfl, w, rfl, hRM2, hlo⟩ := hp
        refine y_ic_eq (t := 608) (q := 343) dL_law_340 rfl rfl (fun _ => ?_) (fun hne => absurd rfl hne)
        exact nx _ rf2 w ⟨hr2, hrm2, hRC2.lo hV2.2.1 hlo, hRM2, hV2⟩
      · refine y_tabI (t := 345) (off := 313) dL_law_32 (by decide) (by decide) rfl rfl ?_
        refine y_al_n (q := 346) dL_law_345 rfl rfl ?_
        refine y_scr (q := 351) (i := i) (n := 1) dL_law_346 dL_law_347 dL_law_348 dL_law_349 dL_law_350 rfl rfl (by omega) ?_
        refine y_scr (q := 356) (i := i) (n := 2) dL_law_351 dL_law_352 dL_law_353 dL_law_354 dL_law_355 rfl rfl (by omega) ?_
        refine y_scr (q := 361) (i := i) (n := 3) dL_law_356 dL_law_357 dL_law_358 dL_law_359 dL_law_360 rfl rfl (by omega) ?_
        refine y_V (q := 364) (ci := 6) dL_law_361 rfl kL_law_53 (uW (k_weight hE hr hRC hV) hI) rfl rfl rfl (by decide) rfl (Nat.le_of_ble_eq_true rfl) ⟨rfl, rfl⟩ ⟨hkc, hks⟩ (fun r1 h1 hp => ?_)
        obtain ⟨rfl, rf2, u, rfl, hr2, hRC2, hV2, hhi⟩ := hp
        have hRMu := hRM.hi (fun d hd => (hhi d hd).1)
        have hrm2 : RokM rf2 := fun k d hk => by rw [(hhi 70 (by decide)).2]; exact hrm k d hk
        refine y_al_n (q := 365) dL_law_364 rfl rfl ?_
        refine y_scr (q := 370) (i := i) (n := 1) dL_law_365 dL_law_366 dL_law_367 dL_law_368 dL_law_369 rfl rfl (by omega) ?_
        refine y_scr (q := 375) (i := i) (n := 2) dL_law_370 dL_law_371 dL_law_372 dL_law_373 dL_law_374 rfl rfl (by omega) ?_
        refine y_scr (q := 380) (i := i) (n := 3) dL_law_375 dL_law_376 dL_law_377 dL_law_378 dL_law_379 rfl rfl (by omega) ?_
        refine y_V (q := 383) (ci := 7) dL_law_380 rfl kL_law_56 (uS (m_weight SHA_ext hrm2 hRMu hV) hRMu) rfl rfl rfl (by decide) rfl (Nat.le_of_ble_eq_true rfl) ⟨rfl, rfl⟩ ⟨hkc, hks⟩ (fun r1 h1 hp => ?_)
        obtain ⟨rfl, w, rfl, hRM2, hlo⟩ := hp
        refine y_ic_eq (t := 608) (q := 386) dL_law_383 rfl rfl (fun _ => ?_) (fun hne => absurd rfl hne)
        exact nx _ rf2 w ⟨hr2, hrm2, hRC2.lo hV2.2.1 hlo, hRM2, hV2⟩
      · refine y_tabI (t := 388) (off := 356) dL_law_32 (by decide) (by decide) rfl rfl ?_
        refine y_al_n (q := 389) dL_law_388 rfl rfl ?_
        refine y_scr (q := 394) (i := i) (n := 1) dL_law_389 dL_law_390 dL_law_391 dL_law_392 dL_law_393 rfl rfl (by omega) ?_
        refine y_V (q := 397) (ci := 6) dL_law_394 rfl kL_law_57 (uW (k_rows hE hr hRC hV) hI) rfl rfl rfl (by decide) rfl (Nat.le_of_ble_eq_true rfl) ⟨rfl, rfl⟩ ⟨hkc, hks⟩ (fun r1 h1 hp => ?_)
        obtain ⟨rfl, rf2, u, rfl, hr2, hRC2, hV2, hhi⟩ := hp
        have hRMu := hRM.hi (fun d hd => (hhi d hd).1)
        have hrm2 : RokM rf2 := fun k d hk => by rw [(hhi 70 (by decide)).2]; exact hrm k d hk
        refine y_al_n (q := 398) dL_law_397 rfl rfl ?_
        refine y_scr (q := 403) (i := i) (n := 1) dL_law_398 dL_law_399 dL_law_400 dL_law_401 dL_law_402 rfl rfl (by omega) ?_
        refine y_V (q := 406) (ci := 7) dL_law_403 rfl kL_law_60 (uS (m_rows SHA_ext hrm2 hRMu hV) hRMu) rfl rfl rfl (by decide) rfl (Nat.le_of_ble_eq_true rfl) ⟨rfl, rfl⟩ ⟨hkc, hks⟩ (fun r1 h1 hp => ?_)
        obtain ⟨rfl, w, rfl, hRM2, hlo⟩ := hp
        refine y_ic_eq (t := 608) (q := 409) dL_law_406 rfl rfl (fun _ => ?_) (fun hne => absurd rfl hne)
        exact nx _ rf2 w ⟨hr2, hrm2, hRC2.lo hV2.2.1 hlo, hRM2, hV2⟩
      · refine y_tabI (t := 411) (off := 379) dL_law_32 (by decide) (by decide) rfl rfl ?_
        refine y_al_n (q := 412) dL_law_411 rfl rfl ?_
        refine y_scr (q := 417) (i := i) (n := 1) dL_law_412 dL_law_413 dL_law_414 dL_law_415 dL_law_416 rfl rfl (by omega) ?_
        refine y_scr (q := 422) (i := i) (n := 2) dL_law_417 dL_law_418 dL_law_419 dL_law_420 dL_law_421 rfl rfl (by omega) ?_
        refine y_V (q := 425) (ci := 6) dL_law_422 rfl kL_law_61 (uC (k_word hE hr hRC hV) hI) rfl rfl rfl (by decide) rfl (Nat.le_of_ble_eq_true rfl) ⟨rfl, rfl⟩ ⟨hkc, hks⟩ (fun r1 h1 hp => ?_)
        obtain ⟨rfl, rf2, u, rfl, hr2, hRC2, hV2, hhi⟩ := hp
        have hRMu := hRM.hi (fun d hd => (hhi d hd).1)
        have hrm2 : RokM rf2 := fun k d hk => by rw [(hhi 70 (by decide)).2]; exact hrm k d hk
        refine y_al_n (q := 426) dL_law_425 rfl rfl ?_
        refine y_scr (q := 431) (i := i) (n := 1) dL_law_426 dL_law_427 dL_law_428 dL_law_429 dL_law_430 rfl rfl (by omega) ?_
        refine y_scr (q := 436) (i := i) (n := 2) dL_law_431 dL_law_432 dL_law_433 dL_law_434 dL_law_435 rfl rfl (by omega) ?_
        refine y_V (q := 439) (ci := 7) dL_law_436 rfl kL_law_64 (uS (m_word SHA_ext hrm2 hRMu hV) hRMu) rfl rfl rfl (by decide) rfl (Nat.le_of_ble_eq_true rfl) ⟨rfl, rfl⟩ ⟨hkc, hks⟩ (fun r1 h1 hp => ?_)
        obtain ⟨rfl, w, rfl, hRM2, hlo⟩ := hp
        refine y_ic_eq (t := 608) (q := 442) dL_law_439 rfl rfl (fun _ => ?_) (fun hne => absurd rfl hne)
        exact nx _ rf2 w ⟨hr2, hrm2, hRC2.lo hV2.2.1 hlo, hRM2, hV2⟩
      · refine y_tabI (t := 444) (off := 412) dL_law_32 (by decide) (by decide) rfl rfl ?_
        refine y_al_n (q := 445) dL_law_444 rfl rfl ?_
        refine y_scr (q := 450) (i := i) (n := 1) dL_law_445 dL_law_446 dL_law_447 dL_law_448 dL_law_449 rfl rfl (by omega) ?_
        refine y_V (q := 453) (ci := 6) dL_law_450 rfl kL_law_65 (uC (k_wrong hE hr hRC hV) hI) rfl rfl rfl (by decide) rfl (Nat.le_of_ble_eq_true rfl) ⟨rfl, rfl⟩ ⟨hkc, hks⟩ (fun r1 h1 hp => ?_)
        obtain ⟨rfl, rf2, u, rfl, hr2, hRC2, hV2, hhi⟩ := hp
        have hRMu := hRM.hi (fun d hd => (hhi d hd).1)
        have hrm2 : RokM rf2 := fun k d hk => by rw [(hhi 70 (by decide)).2]; exact hrm k d hk
        refine y_al_n (q := 454) dL_law_453 rfl rfl ?_
        refine y_scr (q := 459) (i := i) (n := 1) dL_law_454 dL_law_455 dL_law_456 dL_law_457 dL_law_458 rfl rfl (by omega) ?_
        refine y_V (q := 462) (ci := 7) dL_law_459 rfl kL_law_68 (uS (m_wrong SHA_ext hrm2 hRMu hV) hRMu) rfl rfl rfl (by decide) rfl (Nat.le_of_ble_eq_true rfl) ⟨rfl, rfl⟩ ⟨hkc, hks⟩ (fun r1 h1 hp => ?_)
        obtain ⟨rfl, w, rfl, hRM2, hlo⟩ := hp
        refine y_ic_eq (t := 608) (q := 465) dL_law_462 rfl rfl (fun _ => ?_) (fun hne => absurd rfl hne)
        exact nx _ rf2 w ⟨hr2, hrm2, hRC2.lo hV2.2.1 hlo, hRM2, hV2⟩
      · refine y_tabI (t := 467) (off := 435) dL_law_32 (by decide) (by decide) rfl rfl ?_
        refine y_al_n (q := 468) dL_law_467 rfl rfl ?_
        refine y_scr (q := 473) (i := i) (n := 1) dL_law_468 dL_law_469 dL_law_470 dL_law_471 dL_law_472 rfl rfl (by omega) ?_
        refine y_V (q := 476) (ci := 6) dL_law_473 rfl kL_law_69 (k_sees hE hr hRC hV) rfl rfl rfl (by decide) rfl (Nat.le_of_ble_eq_true rfl) ⟨rfl, rfl⟩ ⟨hkc, hks⟩ (fun r1 h1 hp => ?_)
        obtain ⟨rfl, rf2, u, rfl, hr2, hRC2, hV2, hhi⟩ := hp
        have hRMu := hRM.hi (fun d hd => (hhi d hd).1)
        have hrm2 : RokM rf2 := fun k d hk => by rw [(hhi 70 (by decide)).2]; exact hrm k d hk
        refine y_al_n (q := 477) dL_law_476 rfl rfl ?_
        refine y_scr (q := 482) (i := i) (n := 1) dL_law_477 dL_law_478 dL_law_479 dL_law_480 dL_law_481 rfl rfl (by omega) ?_
        refine y_V (q := 485) (ci := 7) dL_law_482 rfl kL_law_72 (m_sees SHA_ext hrm2 hRMu hV) rfl rfl rfl (by decide) rfl (Nat.le_of_ble_eq_true rfl) ⟨rfl, rfl⟩ ⟨hkc, hks⟩ (fun r1 h1 hp => ?_)
        obtain ⟨rfl, w, rfl, hRM2, hlo⟩ := hp
        refine y_ic_eq (t := 608) (q := 488) dL_law_485 rfl rfl (fun _ => ?_) (fun hne => absurd rfl hne)
        exact nx _ rf2 w ⟨hr2, hrm2, hRC2.lo hV2.2.1 hlo, hRM2, hV2⟩
      · refine y_tabI (t := 490) (off := 458) dL_law_32 (by decide) (by decide) rfl rfl ?_
        refine y_al_n (q := 491) dL_law_490 rfl rfl ?_
        refine y_V (q := 494) (ci := 6) dL_law_491 rfl kL_law_73 (k_forget hE hr hRC hV) rfl rfl rfl (by decide) rfl (Nat.le_of_ble_eq_true rfl) ⟨rfl, rfl⟩ ⟨hkc, hks⟩ (fun r1 h1 hp => ?_)
        obtain ⟨rfl, rf2, u, rfl, hr2, hRC2, hV2, hhi⟩ := hp
        have hRMu := hRM.hi (fun d hd => (hhi d hd).1)
        have hrm2 : RokM rf2 := fun k d hk => by rw [(hhi 70 (by decide)).2]; exact hrm k d hk
        refine y_al_n (q := 495) dL_law_494 rfl rfl ?_
        refine y_V (q := 498) (ci := 7) dL_law_495 rfl kL_law_76 (m_forget SHA_ext hrm2 hRMu hV) rfl rfl rfl (by decide) rfl (Nat.le_of_ble_eq_true rfl) ⟨rfl, rfl⟩ ⟨hkc, hks⟩ (fun r1 h1 hp => ?_)
        obtain ⟨rfl, w, rfl, hRM2, hlo⟩ := hp
        refine y_ic_eq (t := 608) (q := 501) dL_law_498 rfl rfl (fun _ => ?_) (fun hne => absurd rfl hne)
        exact nx _ rf2 w ⟨hr2, hrm2, hRC2.lo hV2.2.1 hlo, hRM2, hV2⟩
      · refine y_tabI (t := 503) (off := 471) dL_law_32 (by decide) (by decide) rfl rfl ?_
        refine y_al_n (q := 504) dL_law_503 rfl rfl ?_
        refine y_scr (q := 509) (i := i) (n := 1) dL_law_504 dL_law_505 dL_law_506 dL_law_507 dL_law_508 rfl rfl (by omega) ?_
        refine y_V (q := 512) (ci := 6) dL_law_509 rfl kL_law_77 (uC (k_which hE hr hRC hV) hI) rfl rfl rfl (by decide) rfl (Nat.le_of_ble_eq_true rfl) ⟨rfl, rfl⟩ ⟨hkc, hks⟩ (fun r1 h1 hp => ?_)
        obtain ⟨rfl, rf2, u, rfl, hr2, hRC2, hV2, hhi⟩ := hp
        have hRMu := hRM.hi (fun d hd => (hhi d hd).1)
        have hrm2 : RokM rf2 := fun k d hk => by rw [(hhi 70 (by decide)).2]; exact hrm k d hk
        refine y_al_n (q := 513) dL_law_512 rfl rfl ?_
        refine y_scr (q := 518) (i := i) (n := 1) dL_law_513 dL_law_514 dL_law_515 dL_law_516 dL_law_517 rfl rfl (by omega) ?_
        refine y_V (q := 521) (ci := 7) dL_law_518 rfl kL_law_80 (uS (m_which SHA_ext hrm2 hRMu hV) hRMu) rfl rfl rfl (by decide) rfl (Nat.le_of_ble_eq_true rfl) ⟨rfl, rfl⟩ ⟨hkc, hks⟩ (fun r1 h1 hp => ?_)
        obtain ⟨rfl, w, rfl, hRM2, hlo⟩ := hp
        refine y_ic_eq (t := 608) (q := 524) dL_law_521 rfl rfl (fun _ => ?_) (fun hne => absurd rfl hne)
        exact nx _ rf2 w ⟨hr2, hrm2, hRC2.lo hV2.2.1 hlo, hRM2, hV2⟩
      · refine y_tabI (t := 526) (off := 494) dL_law_32 (by decide) (by decide) rfl rfl ?_
        refine y_al_n (q := 527) dL_law_526 rfl rfl ?_
        refine y_V (q := 530) (ci := 6) dL_law_527 rfl kL_law_81 (uC (k_ask hE hr hRC hV) hI) rfl rfl rfl (by decide) rfl (Nat.le_of_ble_eq_true rfl) ⟨rfl, rfl⟩ ⟨hkc, hks⟩ (fun r1 h1 hp => ?_)
        obtain ⟨rfl, rf2, u, rfl, hr2, hRC2, hV2, hhi⟩ := hp
        have hRMu := hRM.hi (fun d hd => (hhi d hd).1)
        have hrm2 : RokM rf2 := fun k d hk => by rw [(hhi 70 (by decide)).2]; exact hrm k d hk
        refine y_al_n (q := 531) dL_law_530 rfl rfl ?_
        refine y_V (q := 534) (ci := 7) dL_law_531 rfl kL_law_84 (uS (m_ask SHA_ext hrm2 hRMu hV) hRMu) rfl rfl rfl (by decide) rfl (Nat.le_of_ble_eq_true rfl) ⟨rfl, rfl⟩ ⟨hkc, hks⟩ (fun r1 h1 hp => ?_)
        obtain ⟨rfl, w, rfl, hRM2, hlo⟩ := hp
        refine y_ic_eq (t := 608) (q := 537) dL_law_534 rfl rfl (fun _ => ?_) (fun hne => absurd rfl hne)
        exact nx _ rf2 w ⟨hr2, hrm2, hRC2.lo hV2.2.1 hlo, hRM2, hV2⟩
      · refine y_tabI (t := 539) (off := 507) dL_law_32 (by decide) (by decide) rfl rfl ?_
        refine y_al_n (q := 540) dL_law_539 rfl rfl ?_
        refine y_scr (q := 545) (i := i) (n := 1) dL_law_540 dL_law_541 dL_law_542 dL_law_543 dL_law_544 rfl rfl (by omega) ?_
        refine y_V (q := 548) (ci := 6) dL_law_545 rfl kL_law_85 (k_keep hE hr hRC hV) rfl rfl rfl (by decide) rfl (Nat.le_of_ble_eq_true rfl) ⟨rfl, rfl⟩ ⟨hkc, hks⟩ (fun r1 h1 hp => ?_)
        obtain ⟨rfl, rf2, u, rfl, hr2, hRC2, hV2, hhi⟩ := hp
        have hRMu := hRM.hi (fun d hd => (hhi d hd).1)
        have hrm2 : RokM rf2 := fun k d hk => by rw [(hhi 70 (by decide)).2]; exact hrm k d hk
        refine y_al_n (q := 549) dL_law_548 rfl rfl ?_
        refine y_scr (q := 554) (i := i) (n := 1) dL_law_549 dL_law_550 dL_law_551 dL_law_552 dL_law_553 rfl rfl (by omega) ?_
        refine y_V (q := 557) (ci := 7) dL_law_554 rfl kL_law_88 (m_keep SHA_ext hrm2 hRMu hV) rfl rfl rfl (by decide) rfl (Nat.le_of_ble_eq_true rfl) ⟨rfl, rfl⟩ ⟨hkc, hks⟩ (fun r1 h1 hp => ?_)
        obtain ⟨rfl, w, rfl, hRM2, hlo⟩ := hp
        refine y_ic_eq (t := 608) (q := 560) dL_law_557 rfl rfl (fun _ => ?_) (fun hne => absurd rfl hne)
        exact nx _ rf2 w ⟨hr2, hrm2, hRC2.lo hV2.2.1 hlo, hRM2, hV2⟩
      · refine y_tabI (t := 562) (off := 530) dL_law_32 (by decide) (by decide) rfl rfl ?_
        refine y_al_n (q := 563) dL_law_562 rfl rfl ?_
        refine y_scr (q := 568) (i := i) (n := 1) dL_law_563 dL_law_564 dL_law_565 dL_law_566 dL_law_567 rfl rfl (by omega) ?_
        refine y_V (q := 571) (ci := 6) dL_law_568 rfl kL_law_89 (k_back hE hr hRC hV) rfl rfl rfl (by decide) rfl (Nat.le_of_ble_eq_true rfl) ⟨rfl, rfl⟩ ⟨hkc, hks⟩ (fun r1 h1 hp => ?_)
        obtain ⟨rfl, rf2, u, rfl, hr2, hRC2, hV2, hhi⟩ := hp
        have hRMu := hRM.hi (fun d hd => (hhi d hd).1)
        have hrm2 : RokM rf2 := fun k d hk => by rw [(hhi 70 (by decide)).2]; exact hrm k d hk
        refine y_al_n (q := 572) dL_law_571 rfl rfl ?_
        refine y_scr (q := 577) (i := i) (n := 1) dL_law_572 dL_law_573 dL_law_574 dL_law_575 dL_law_576 rfl rfl (by omega) ?_
        refine y_V (q := 580) (ci := 7) dL_law_577 rfl kL_law_92 (m_back SHA_ext hrm2 hRMu hV) rfl rfl rfl (by decide) rfl (Nat.le_of_ble_eq_true rfl) ⟨rfl, rfl⟩ ⟨hkc, hks⟩ (fun r1 h1 hp => ?_)
        obtain ⟨rfl, w, rfl, hRM2, hlo⟩ := hp
        refine y_ic_eq (t := 608) (q := 583) dL_law_580 rfl rfl (fun _ => ?_) (fun hne => absurd rfl hne)
        exact nx _ rf2 w ⟨hr2, hrm2, hRC2.lo hV2.2.1 hlo, hRM2, hV2⟩
      · refine y_tabI (t := 585) (off := 553) dL_law_32 (by decide) (by decide) rfl rfl ?_
        refine y_al_n (q := 586) dL_law_585 rfl rfl ?_
        refine y_scr (q := 591) (i := i) (n := 1) dL_law_586 dL_law_587 dL_law_588 dL_law_589 dL_law_590 rfl rfl (by omega) ?_
        refine y_V (q := 594) (ci := 6) dL_law_591 rfl kL_law_93 (uC (k_count hE hr hRC hV) hI) rfl rfl rfl (by decide) rfl (Nat.le_of_ble_eq_true rfl) ⟨rfl, rfl⟩ ⟨hkc, hks⟩ (fun r1 h1 hp => ?_)
        obtain ⟨rfl, rf2, u, rfl, hr2, hRC2, hV2, hhi⟩ := hp
        have hRMu := hRM.hi (fun d hd => (hhi d hd).1)
        have hrm2 : RokM rf2 := fun k d hk => by rw [(hhi 70 (by decide)).2]; exact hrm k d hk
        refine y_al_n (q := 595) dL_law_594 rfl rfl ?_
        refine y_scr (q := 600) (i := i) (n := 1) dL_law_595 dL_law_596 dL_law_597 dL_law_598 dL_law_599 rfl rfl (by omega) ?_
        refine y_V (q := 603) (ci := 7) dL_law_600 rfl kL_law_96 (uS (m_count SHA_ext hrm2 hRMu hV) hRMu) rfl rfl rfl (by decide) rfl (Nat.le_of_ble_eq_true rfl) ⟨rfl, rfl⟩ ⟨hkc, hks⟩ (fun r1 h1 hp => ?_)
        obtain ⟨rfl, w, rfl, hRM2, hlo⟩ := hp
        refine y_ic_eq (t := 608) (q := 606) dL_law_603 rfl rfl (fun _ => ?_) (fun hne => absurd rfl hne)
        exact nx _ rf2 w ⟨hr2, hrm2, hRC2.lo hV2.2.1 hlo, hRM2, hV2⟩
end LAW
theorem inst_all : ∀ ci, ci < 8 → Cond.instantiable (CNn ci) (NFn ci) ∈ gw_tbl := fun ci h => by
  rcases (show ci = 0 ∨ ci = 1 ∨ ci = 2 ∨ ci = 3 ∨ ci = 4 ∨ ci = 5 ∨ ci = 6 ∨ ci = 7 by omega) with rfl | rfl | rfl | rfl | rfl | rfl | rfl | rfl
  · exact q189
  · exact q113
  · exact q147
  · exact q155
  · exact q225
  · exact q89
  · exact q81
  · exact q656
theorem over_in : Cond.arrayOver (.object RX2) ∈ lw_tbl := by decide +kernel
set_option maxHeartbeats 4000000 in
set_option maxRecDepth 100000 in
theorem whole_start {p : Program} {e : Env} {s : State} {m : MethodId} {below : List Frame} {meth : Method} {c : Code} (l : Launch) (hflags : l.flags = flags0) {b L : Nat} {xs : Nat → Int32} (hL : L ≤ 2048) (C0 : lw_At p s m meth c b L xs) : W p l e room_1 s m #[Value.ref b] below meth c s.heap [] 0 0 (lw_Z below #[Value.ref b] s) (entryFrame m ([Value.ref b] : List Value).toArray 4) := by
  obtain ⟨hx, hb, hr, hml, hown, hts, hX, hbl, hlocks, hgv⟩ := id C0
  have hgw : ∀ w ∈ gw_tbl, w.before #[Value.ref b] s = true := fun w hw => hts w (List.mem_filter.mp hw).1
  have hkn : ∀ ci, ci < 8 → ∃ (cC : ClassId) (iS : Nat → Nat), u_Kn s (CNn ci) (FTn ci) (NFn ci) cC iS := fun ci h8 => u_known hgw (in_all ci h8) (hgw _ (inst_all ci h8))
  obtain ⟨dC, dI, hKc⟩ : ∃ (dC : Nat → ClassId) (dI : Nat → Nat → Nat), ∀ (k : Nat) (q : vw_C), vwCl[k]? = some q → u_Kn s q.1 q.2.1 q.2.2 (dC k) (dI k) := by
    have hch : ∀ ci : Nat, ∃ (z : ClassId × (Nat → Nat)), ci < 8 → u_Kn s (CNn ci) (FTn ci) (NFn ci) z.1 z.2 := fun ci => by
      by_cases h8 : ci < 8
      · obtain ⟨cC, iS, h⟩ := hkn ci h8
        exact ⟨(cC, iS), fun _ => h⟩
      · obtain ⟨cC, iS, h⟩ := hkn 0 (by decide)
        exact ⟨(cC, iS), fun h => absurd h h8⟩
    refine ⟨fun ci => (hch ci).choose.1, fun ci => (hch ci).choose.2, fun k q hq => ?_⟩
    have h8 : k < 8 := by
      have := (List.getElem?_eq_some_iff.mp hq).1
      exact this
    have := (hch k).choose_spec h8
    rw [cl_at k h8] at hq
    cases hq
    exact this
  obtain ⟨cI, kI, comI, i1, i2, i3⟩ := Cond.arrayClass_spec (hgw _ q111)
  obtain ⟨cZ, kZ, comZ, z1, z2, z3⟩ := Cond.arrayClass_spec (hgw _ q368)
  have hover : (Cond.arrayOver (.object RX2)).before #[Value.ref b] s = true := hts _ over_in
  obtain ⟨comH, cH, kH, h1, h2, h3, h4, h5⟩ := Cond.arrayOver_spec hover
  have hKK : KK (l, (dC, dI), (cI, cZ, cH), s.heap.size) s := by
    refine ⟨⟨hKc, fun k q hq => ?_⟩, va_AO.of hover⟩
    match k, hq with
    | 0, hq => cases hq; exact ⟨fun n z => ⟨(fun k h => by cases h), kI, i2, comI, i3⟩, i1⟩
    | 1, hq => cases hq; exact ⟨fun n z => ⟨(fun k h => by cases h), kZ, z2, comZ, z3⟩, z1⟩
    | 2, hq => cases hq; exact ⟨fun n z => ⟨(fun k h => by cases h), kH, h3, comH, h4⟩, kH, comH, h3, h4, h1, h5⟩
    | k + 3, hq => simp [tysK] at hq
  have key : Wl (l, (dC, dI), (cI, cZ, cH), s.heap.size) mL_law 0 0 0 [none, none, none, none] [] ([], fun _ _ => none, fun _ _ => 0) (b, L, xs) := by
    refine y_new (q := 3) (ci := 6) dL_law_0 rfl (by decide) q80 q81 q69 (Nat.le_of_ble_eq_true rfl) (Nat.le_of_ble_eq_true rfl) ?_
    refine y_dup (q := 4) dL_law_3 rfl rfl ?_
    refine y_st (ls' := [none, none, none, none]) (st' := [aR 0, aR 0]) (h' := H00) ?_ rfl rfl rfl
    refine y_callI (q := 7) dL_law_4 rfl kL_law_9 rfl c_brInit rfl rfl (Nat.le_of_ble_eq_true rfl) ⟨(Nat.le_of_ble_eq_true rfl), (Nat.le_of_ble_eq_true rfl)⟩ (fun r1 h1 hp => ?_)
    obtain ⟨rfl, u, rfl, hRC⟩ := hp
    refine y_as_n (k := 1) (i := 1) (z := 0) (q := 8) dL_law_7 rfl (by decide) rfl (by decide) (fun b _ hb => by cases hb) ?_
    refine y_new (q := 11) (ci := 7) dL_law_8 rfl (by decide) q655 q656 q78 (Nat.le_of_ble_eq_true rfl) (Nat.le_of_ble_eq_true rfl) ?_
    refine y_dup (q := 12) dL_law_11 rfl rfl ?_
    refine y_st (ls' := [none, some (aR 0), none, none]) (st' := [aR 70, aR 70]) (h' := (SHc ++ [(10, 22)], upRo hb9.2.1 70 (fun _ => none), upR u 70 (fun _ => 0))) ?_ rfl rfl rfl
    refine y_callI (q := 15) dL_law_12 rfl kL_law_12 rfl (m_init (fun k => by rw [upR_c])) rfl rfl (Nat.le_of_ble_eq_true rfl) ⟨(Nat.le_of_ble_eq_true rfl), (Nat.le_of_ble_eq_true rfl)⟩ (fun r1 h1 hp => ?_)
    obtain ⟨rfl, rf2, u2, rfl, hrm, hRM, hlo⟩ := hp
    refine y_as_n (k := 2) (i := 2) (z := 70) (q := 16) dL_law_15 rfl (by decide) rfl (by decide) (fun b _ hb => by cases hb; rfl) ?_
    refine y_ic (q := 17) dL_law_16 rfl rfl ?_
    refine y_is_n (k := 3) (i := 3) (z := 0) (q := 18) dL_law_17 rfl (by decide) rfl (by decide) (fun b _ hb => by cases hb; rfl) ?_
    have hrf : ∀ d, d < 70 → rf2 d = hb9.2.1 d := fun d hd => (hlo d hd).1.trans (upRo_n _ _ (by omega))
    have hvv : ∀ d, d < 70 → u2 d = u d := fun d hd => (hlo d hd).2.trans (upR_n _ _ (by omega))
    have hrok : Rok rf2 := fun c k d hk => by rw [hrf c (RFl_rng hk).1]; exact hb9_rok c k d hk
    exact law_loop (P := (b, L, xs)) (Nat.le_of_ble_eq_true rfl) (Nat.le_of_ble_eq_true rfl) hL (L + 4) 0 S0 rf2 u2 (by show L + 4 - 0 ≤ L + 4; omega) (by decide) ⟨hrok, hrm, (hRC.lo (Nat.zero_le _) hvv).rf (hrf 18 (by decide)), hRM, S0_v⟩
  have hl := lv_entry ([.ref b]) (n := 4) (Nat.le_of_ble_eq_true rfl)
  rw [lg_entry_eq]
  generalize (lg_sl ([.ref b]) ++ List.replicate (4 - (lg_sl ([.ref b])).length) Slot.unset).toArray = ls at hl ⊢
  have hl : lv_has ls 4 [(0, .ref b)] := hl
  refine key p e s m #[Value.ref b] below meth c s.heap [] ls ⟨hx, hb, hml, hr, hown, hgw, hlocks, trivial, hKK, Nat.le_refl _⟩ ⟨by show s.heap.size + 0 = s.heap.size + 0; rfl, fun k q h => by simp [wsH] at h, fun _ _ => ci_0⟩ va_S.rf ⟨hl.1, rfl, hl.2.1, fun i a hi => ?_, hl.2.2 (0, .ref b) List.mem_cons_self, hX, hbl, rfl, rfl, hL⟩ (fun a ha => by cases ha)
  match i, hi with
  | 0, hi => cases hi
  | 1, hi => cases hi
  | 2, hi => cases hi
  | 3, hi => cases hi
  | i + 4, hi => simp at hi
set_option maxHeartbeats 4000000 in
theorem lw_walk (l : Launch) (hflags : l.flags = flags0) (b : Addr) (xs : List Int32) : MetFree l x (headSpec (Jvm.Cond.code x code maxLocals ret :: tables_1) room_1) (lw_P b xs) (fun _ _ _ _ _ => True) lw_Q := by
  refine MetFree.of_bodyS (code := code) (maxLocals := maxLocals) (ret := ret) (by decide) ?_ ?_
  · intro args s m h hn
    obtain ⟨meth, c, h1, h2, h3, h4, h5, h6, -, -⟩ := Cond.code_spec hn (atoms_spec (ws := Jvm.Cond.code x code maxLocals ret :: tables_1) h _ List.mem_cons_self)
    exact ⟨meth, c, h1, h2, h3, h4, h5, h6⟩
  · intro p e s m args below meth c s₁ B hml0 hP _
    obtain ⟨rfl, hx, hbd, hgv⟩ := hP
    obtain ⟨scr, harrAt, hlist, hof, hsmall⟩ := hx
    obtain ⟨hcb, hkn, -, -⟩ := State.arrayAt?_spec harrAt
    have hown : s.vm.findClass R_law = some m.cls := findClass_of_methodNamed B.named
    have hts0 : ∀ c ∈ (Jvm.Cond.code x code maxLocals ret :: tables_1), c.before #[Value.ref b] s = true := atoms_spec (ws := Jvm.Cond.code x code maxLocals ret :: tables_1) B.pre
    have hts : ∀ w ∈ lw_tbl, w.before #[Value.ref b] s = true := k2_hts_sels lw_privs (fun w hw => hts0 w (List.mem_cons_of_mem _ hw)) lw_privs_ok
    have hml : c.maxLocals = 4 := B.maxLocals_eq (hts0 _ List.mem_cons_self)
    have X₀ : Stand p l e room_1 s m #[Value.ref b] below meth c s₁ [] 0 0 := Stand.of_body B
    have hh0 : s₁.heap = s.heap := by rw [B.state]; rfl
    have hsz : scr.slots.size = xs.length := by rw [← Array.length_toList, hlist, List.length_map]
    have hval : ∀ j : Nat, j < xs.length → scr.slots[j]? = some (.int (xs.getD j 0)) := fun j hj => by
      rw [← Array.getElem?_toList, hlist]
      simp [hj]
    have hbl : b < s.heap.size := (Array.getElem?_eq_some_iff.mp hcb).1
    have hX : va_X b xs.length (fun j => xs.getD j 0) s s.heap := ⟨scr, hcb, hof, hkn, hsz, hval⟩
    have K : W p l e room_1 s m #[Value.ref b] below meth c s₁.heap [] 0 0 (lw_Z below #[Value.ref b] s) (entryFrame m ([Value.ref b] : List Value).toArray 4) := by
      rw [hh0]
      exact whole_start l hflags hbd ⟨B.exec, B.bytes, B.returns, hml, hown, hts, hX, hbl, B.notSynchronized, hgv⟩
    obtain ⟨t, a1, o, b1, b2, b3⟩ := K s₁ rfl X₀
    exact ⟨t, o, a1, b1, b2, b3⟩
theorem lw_pre_spec {args : Array Value} {s : State} (h : (Jvm.Cond.and given_1 narrow_1).before args s = true) (hr : rest_1_c.before args s = true) : ∃ (b : Addr) (xs : List Int32), lw_P b xs args s := by
  have hs := flat_of_before _ h
  have hq := flat_of_before _ hr
  have hc : (Cond.count 1).before args s = true := hs _ (by decide +kernel)
  have harr : (Cond.arrayOf (.arg 0) .int).before args s = true := hs _ (by decide +kernel)
  have hle : (Cond.le (.length (.arg 0)) (.int 2048)).before args s = true := hs _ (by decide +kernel)
  have hlen : (Cond.isInt (.length (.arg 0))).before args s = true := hq _ (by decide +kernel)
  have hall : (Cond.all (.arg 0) (.isInt (.elem (.arg 0) (.index 0)))).before args s = true := hq _ (by decide +kernel)
  obtain ⟨b, xs, hb, hx⟩ := State.ints_of_pre rfl harr hlen hall
  have hsm : xs.length < 2 ^ 31 := hx.choose_spec.2.2.2
  have hev : (Term.length (.arg 0)).eval args s none [] s = some (.int xs.length.toInt32) := hx.length_eval hb
  have hv := Cond.le_ints hev (show (Term.int 2048).eval args s none [] s = some (.int 2048) from rfl)
  have hd : xs.length.toInt32 ≤ 2048 := by
    simpa [Cond.before, Cond.holds, hv] using hle
  have hN : xs.length ≤ 2048 := (Int32.ofNat_le_ofNat hsm (by decide)).mp (show Int32.ofNat xs.length ≤ Int32.ofNat 2048 from hd)
  exact ⟨b, xs, Cond.one_arg hc (show args[0]? = some (.ref b) from hb), hx, hN, h⟩
theorem lw_comes (l : Launch) (hflags : l.flags = flags0) : Comes l x (Jvm.Cond.code x code maxLocals ret :: tables_1) room_1 (fun tb e args s => Calls_1 tb e args s ∧ rest_1 tb e args s ∧ Pre_1 tb e args s)
    (fun _ _ args s o t => lw_Q args s o t) := by
  intro p e ha hc hk s m args below hf hfit hheap happ hpre
  obtain ⟨b, xs, hP⟩ := lw_pre_spec hpre.2.2 hpre.2.1
  obtain ⟨k, o, h1, h2, h3, hQ⟩ := lw_walk l hflags b xs p e ha hc hk s m args below hf ((Spec.applies_iff_loose hf).mp happ).1 hP trivial
  exact ⟨k, o, h1, h2, h3, hQ⟩
theorem lw_frame {s t : State} {o : Outcome} {args : Array Value} (h : Framed s o t [] 600000 7302250) :
    Framed s o t (fieldLocs frame_1_writes args s ++ arrayLocs frame_1_arrays args s ++ staticLocs frame_1_statics s) 600000 7302250 := h
theorem lw_limb (L : Cond) (hL : ∀ (args : Array Value) (s t : State), L.after args s (.returned (some (.int 1))) t = true) :
    ArmFor flags0 classFile x code maxLocals ret World_1 tables_1 room_1 Calls_1 rest_1 Pre_1
      (fun tb e a s o t => postC L tb e a s o t ∧ Framed s o t (fieldLocs frame_1_writes a s ++ arrayLocs frame_1_arrays a s ++ staticLocs frame_1_statics s) 600000 7302250) := by
  intro l hflags _ _ p e ha hc hk s m args below hf hfit hheap happ hpre
  obtain ⟨k, o, h1, h2, h3, rfl, hF⟩ := lw_comes l hflags p e ha hc hk s m args below hf hfit hheap happ hpre
  exact ⟨k, _, h1, h2, h3, hL args s _, lw_frame hF⟩
theorem i_vc : Claimed_1_1 ∧ Claimed_1_2 := ⟨lw_limb limb_1_1 (fun args s t => by simp [limb_1_1, Cond.after, Cond.holds, Cond.value]), lw_limb limb_1_2 (fun args s t => Cond.after_iff.mpr (by
  first | (rw [show limb_1_2 = Cond.eq .result (.int 1) from rfl, Cond.eq_ints (x := 1) (y := 1) rfl rfl]; simp; done) | (simp [limb_1_2, Cond.value, Term.eval]; done)))⟩


/-! a land at D, songs at B -/
def zLandL (mr : zFr) (D : Nat) : Prop := (D = 88 ∨ D = 94) ∧ mr D 6 = some (D + 1) ∧ mr D 7 = some (D + 2) ∧ mr D 8 = some (D + 3) ∧ mr D 9 = some (D + 4) ∧ mr D 10 = some (D + 5)
def zSongL (mr : zFr) (B : Nat) : Prop := (B = 4 ∨ B = 72 ∨ B = 101 ∨ B = 163) ∧ mr B 1 = some (B + 1) ∧ mr B 2 = some (B + 2) ∧ mr B 3 = some (B + 3) ∧ mr B 4 = some (B + 4)
section ZLAND
variable {mr : zFr} {D B : Nat}
theorem zLandL.l0 (h : zLandL mr D) : D < 238 := by rcases h.1 with q | q <;> omega
theorem zLandL.l (h : zLandL mr D) {j : Nat} (hj : j < 6) : D + j < 238 := by rcases h.1 with q | q <;> omega
theorem zLandL.k0 (h : zLandL mr D) : zKD D = 0 := by rcases h.1 with q | q <;> subst q <;> rfl
theorem zLandL.k1 (h : zLandL mr D) : zKD (D + 1) = 16 := by rcases h.1 with q | q <;> subst q <;> rfl
theorem zLandL.k2 (h : zLandL mr D) : zKD (D + 2) = 16 := by rcases h.1 with q | q <;> subst q <;> rfl
theorem zLandL.k3 (h : zLandL mr D) : zKD (D + 3) = 16 := by rcases h.1 with q | q <;> subst q <;> rfl
theorem zLandL.k4 (h : zLandL mr D) : zKD (D + 4) = 16 := by rcases h.1 with q | q <;> subst q <;> rfl
theorem zLandL.k5 (h : zLandL mr D) : zKD (D + 5) = 18 := by rcases h.1 with q | q <;> subst q <;> rfl
theorem zLandL.n1 (h : zLandL mr D) : zLN (D + 1) = 9 := by rcases h.1 with q | q <;> subst q <;> rfl
theorem zLandL.n2 (h : zLandL mr D) : zLN (D + 2) = 5 := by rcases h.1 with q | q <;> subst q <;> rfl
theorem zLandL.n3 (h : zLandL mr D) : zLN (D + 3) = 5 := by rcases h.1 with q | q <;> subst q <;> rfl
theorem zLandL.n4 (h : zLandL mr D) : zLN (D + 4) = 5 := by rcases h.1 with q | q <;> subst q <;> rfl
theorem zLandL.n5 (h : zLandL mr D) : zLN (D + 5) = 5 := by rcases h.1 with q | q <;> subst q <;> rfl
theorem zLandL.r1 (h : zLandL mr D) : mr D 6 = some (D + 1) := h.2.1
theorem zLandL.r2 (h : zLandL mr D) : mr D 7 = some (D + 2) := h.2.2.1
theorem zLandL.r3 (h : zLandL mr D) : mr D 8 = some (D + 3) := h.2.2.2.1
theorem zLandL.r4 (h : zLandL mr D) : mr D 9 = some (D + 4) := h.2.2.2.2.1
theorem zLandL.r5 (h : zLandL mr D) : mr D 10 = some (D + 5) := h.2.2.2.2.2
theorem zSongL.l (h : zSongL mr B) {j : Nat} (hj : j < 5) : B + j < 238 := by rcases h.1 with q | q | q | q <;> omega
theorem zSongL.l0 (h : zSongL mr B) : B < 238 := h.l (j := 0) (by decide)
theorem zSongL.k0 (h : zSongL mr B) : zKD B = 5 := by rcases h.1 with q | q | q | q <;> subst q <;> rfl
theorem zSongL.k (h : zSongL mr B) {j : Nat} (h1 : 1 ≤ j) (h2 : j < 5) : zKD (B + j) = 16 := by
  have : j = 1 ∨ j = 2 ∨ j = 3 ∨ j = 4 := by omega
  rcases h.1 with q | q | q | q <;> subst q <;> rcases this with q | q | q | q <;> subst q <;> rfl
theorem zSongL.n (h : zSongL mr B) {j : Nat} (h1 : 1 ≤ j) (h2 : j < 5) : zLN (B + j) = 10 := by
  have : j = 1 ∨ j = 2 ∨ j = 3 ∨ j = 4 := by omega
  rcases h.1 with q | q | q | q <;> subst q <;> rcases this with q | q | q | q <;> subst q <;> rfl
theorem zSongL.r1 (h : zSongL mr B) : mr B 1 = some (B + 1) := h.2.1
theorem zSongL.r2 (h : zSongL mr B) : mr B 2 = some (B + 2) := h.2.2.1
theorem zSongL.r3 (h : zSongL mr B) : mr B 3 = some (B + 3) := h.2.2.2.1
theorem zSongL.r4 (h : zSongL mr B) : mr B 4 = some (B + 4) := h.2.2.2.2
end ZLAND
/-- what a land tells: Λ 0: places, words, take, learn, drop, start; Λ 1: nearness; Λ 2 .. 5: meaning, year, home, plain of a word -/
abbrev zLd : Type := Nat → Nat → Nat
def zLandR (mi : zFi) (D : Nat) (Λ : zLd) : Prop := (∀ k, k < 6 → mi D k = nI (Λ 0 k)) ∧ (∀ j, j < 9 → mi (D + 1) j = nI (Λ 1 j)) ∧ ∀ w, w < Λ 0 1 → mi (D + 2) w = nI (Λ 2 w) ∧ mi (D + 3) w = nI (Λ 3 w) ∧ mi (D + 4) w = nI (Λ 4 w) ∧ mi (D + 5) w = nI (Λ 5 w)
def zLandW (Λ : zLd) : Prop := (Λ 0 0 ≤ 3 ∧ Λ 0 1 ≤ 5 ∧ Λ 0 2 ≤ 9 ∧ Λ 0 3 ≤ 9 ∧ Λ 0 4 ≤ 9 ∧ 1 ≤ Λ 0 5 ∧ Λ 0 5 ≤ 99) ∧ (∀ j, j < 9 → Λ 1 j ≤ 9) ∧ ∀ w, w < Λ 0 1 → Λ 2 w ≤ 3 ∧ Λ 3 w ≤ 90 ∧ Λ 4 w < Λ 0 0 ∧ Λ 5 w ≤ 1
section ZLANDR
variable {mi : zFi} {D : Nat} {Λ : zLd}
theorem zLandR.f0 (h : zLandR mi D Λ) : mi D 0 = nI (Λ 0 0) := h.1 0 (by decide)
theorem zLandR.f1 (h : zLandR mi D Λ) : mi D 1 = nI (Λ 0 1) := h.1 1 (by decide)
theorem zLandR.f2 (h : zLandR mi D Λ) : mi D 2 = nI (Λ 0 2) := h.1 2 (by decide)
theorem zLandR.f3 (h : zLandR mi D Λ) : mi D 3 = nI (Λ 0 3) := h.1 3 (by decide)
theorem zLandR.f4 (h : zLandR mi D Λ) : mi D 4 = nI (Λ 0 4) := h.1 4 (by decide)
theorem zLandR.f5 (h : zLandR mi D Λ) : mi D 5 = nI (Λ 0 5) := h.1 5 (by decide)
theorem zLandR.congr {mi' : zFi} (h : zLandR mi D Λ) (e : ∀ j, j < 6 → mi' (D + j) = mi (D + j)) : zLandR mi' D Λ := by
  have e0 := e 0 (by decide)
  rw [Nat.add_zero] at e0
  refine ⟨fun k hk => by rw [e0]; exact h.1 k hk, fun j hj => by rw [e 1 (by decide)]; exact h.2.1 j hj, fun w hw => ?_⟩
  rw [e 2 (by decide), e 3 (by decide), e 4 (by decide), e 5 (by decide)]
  exact h.2.2 w hw
end ZLANDR
/-- songs: Σ 0 0 how many; Σ 1 .. 4: year, word, place, hundredths -/
def zSongR (mi : zFi) (B : Nat) (S : zLd) : Prop := mi B 0 = nI (S 0 0) ∧ ∀ i, i < S 0 0 → mi (B + 1) i = nI (S 1 i) ∧ mi (B + 2) i = nI (S 2 i) ∧ mi (B + 3) i = nI (S 3 i) ∧ mi (B + 4) i = nI (S 4 i)
/-- of a land with P places and W words -/
def zSongW (P W : Nat) (S : zLd) : Prop := S 0 0 ≤ 10 ∧ ∀ i, i < S 0 0 → S 1 i ≤ 99 ∧ S 2 i < W ∧ S 3 i < P ∧ 1 ≤ S 4 i ∧ S 4 i ≤ 99
theorem zSongR.congr {mi mi' : zFi} {B : Nat} {S : zLd} (h : zSongR mi B S) (e : ∀ j, j < 5 → mi' (B + j) = mi (B + j)) : zSongR mi' B S := by
  have e0 := e 0 (by decide)
  rw [Nat.add_zero] at e0
  refine ⟨by rw [e0]; exact h.1, fun i hi => ?_⟩
  rw [e 1 (by decide), e 2 (by decide), e 3 (by decide), e 4 (by decide)]
  exact h.2 i hi
theorem lmm_X2_136 : Cond.methodLink RX2 136 Lib.Math.max.name ∈ zT := zT_i2 212 (by decide +kernel) rfl
theorem lmm_X7_148 : Cond.methodLink RX7 148 Lib.Math.min.name ∈ zT := zT_i3 27 (by decide +kernel) rfl
theorem lmm_X2_105 : Cond.methodLink RX2 105 Lib.Math.min.name ∈ zT := zT_i3 50 (by decide +kernel) rfl
theorem lmm_X7_303 : Cond.methodLink RX7 303 Lib.MathLoose.abs_long.x ∈ zT := zT_i3 148 (by decide +kernel) rfl
theorem lmm_X6_22 : Cond.methodLink RX6 22 Lib.Math.min.name ∈ zT := zT_i3 227 (by decide +kernel) rfl
theorem lmm_X6_28 : Cond.methodLink RX6 28 Lib.Math.max.name ∈ zT := zT_i3 232 (by decide +kernel) rfl
theorem lms_min : Cond.static Lib.Math.min.name ∈ zT := zt_yJ9_min_7cf53
theorem lmc_min : Cond.code Lib.Math.min.name Lib.Math.min.code 2 (some .int) ∈ zT := zk_yJ9_min_7cf53
theorem lmi_min : Cond.initialized "java/lang/Math" ∈ zT := zn_yJ9_min_7cf53
theorem lms_max : Cond.static Lib.Math.max.name ∈ zT := zt_yJ9_max_7cf53
theorem lmc_max : Cond.code Lib.Math.max.name Lib.Math.max.code 2 (some .int) ∈ zT := zk_yJ9_max_7cf53
theorem lmi_max : Cond.initialized "java/lang/Math" ∈ zT := zn_yJ9_max_7cf53
theorem lms_abs : Cond.static Lib.MathLoose.abs_long.x ∈ zT := zt_yJ9_abs_067f4
theorem lmc_abs : Cond.code Lib.MathLoose.abs_long.x Lib.MathLoose.abs_long.code 2 (some .long) ∈ zT := zk_yJ9_abs_067f4
theorem lmi_abs : Cond.initialized "java/lang/Math" ∈ zT := zn_yJ9_abs_067f4
section ZMATH
variable {G : zG} {R : Room} {QQ : zQQ} {own mn : String} {cc : ByteArray} {nL : Nat} {ret : Option FieldType} {n0 pc idx : Nat} {L st : List Value} {n : Nat} {mi : zFi} {ml : zFl} {mr : zFr}
theorem e_mmin (pc' : Nat) {x y : Int32} (hd : decode cc pc = .ok (.invokestatic idx, 3)) (hl : Cond.methodLink own idx Lib.Math.min.name ∈ zT) (hp : pc + 3 = pc') (hR1 : 1 ≤ R.frames) (hR2 : (st.map fun v => v.category).sum + 13 ≤ R.locals) (hc : n - n0 ≤ R.cells) (hs : zSl n - zSl n0 ≤ R.slots) (k : zE G R QQ own mn cc nL ret n0 pc' L (.int (if y < x then y else x) :: st) n mi ml mr) : zE G R QQ own mn cc nL ret n0 pc L (.int y :: .int x :: st) n mi ml mr := by
  intro p e s m args below meth c H locs ls hC hR hL hn
  subst hp
  have K := k p e s m args below meth c H locs ls hC hR hL hn
  obtain ⟨hx, hb, hrt, hml, hown, hts, hlk, hmn, hsz, had, hns, hout⟩ := hC
  exact va_mmin (rest := st.map (zTv (zad G))) hx hb (by rw [hml]; exact hL.1.symm) hown (hts _ hl) (hts _ lms_min) (hts _ lmi_min) (hts _ lmc_min) hR1 (by rw [zTv_cats]; exact hR2) hc hs hd K
theorem e_mmax (pc' : Nat) {x y : Int32} (hd : decode cc pc = .ok (.invokestatic idx, 3)) (hl : Cond.methodLink own idx Lib.Math.max.name ∈ zT) (hp : pc + 3 = pc') (hR1 : 1 ≤ R.frames) (hR2 : (st.map fun v => v.category).sum + 13 ≤ R.locals) (hc : n - n0 ≤ R.cells) (hs : zSl n - zSl n0 ≤ R.slots) (k : zE G R QQ own mn cc nL ret n0 pc' L (.int (if x < y then y else x) :: st) n mi ml mr) : zE G R QQ own mn cc nL ret n0 pc L (.int y :: .int x :: st) n mi ml mr := by
  intro p e s m args below meth c H locs ls hC hR hL hn
  subst hp
  have K := k p e s m args below meth c H locs ls hC hR hL hn
  obtain ⟨hx, hb, hrt, hml, hown, hts, hlk, hmn, hsz, had, hns, hout⟩ := hC
  exact va_mmax (rest := st.map (zTv (zad G))) hx hb (by rw [hml]; exact hL.1.symm) hown (hts _ hl) (hts _ lms_max) (hts _ lmi_max) (hts _ lmc_max) hR1 (by rw [zTv_cats]; exact hR2) hc hs hd K
theorem e_mabs (pc' : Nat) {x : Int64} (hd : decode cc pc = .ok (.invokestatic idx, 3)) (hl : Cond.methodLink own idx Lib.MathLoose.abs_long.x ∈ zT) (hp : pc + 3 = pc') (hR1 : 1 ≤ R.frames) (hR2 : (st.map fun v => v.category).sum + 13 ≤ R.locals) (hc : n - n0 ≤ R.cells) (hs : zSl n - zSl n0 ≤ R.slots) (k : zE G R QQ own mn cc nL ret n0 pc' L (.long (if 0 < x then x else -x) :: st) n mi ml mr) : zE G R QQ own mn cc nL ret n0 pc L (.long x :: st) n mi ml mr := by
  intro p e s m args below meth c H locs ls hC hR hL hn
  subst hp
  have K := k p e s m args below meth c H locs ls hC hR hL hn
  obtain ⟨hx, hb, hrt, hml, hown, hts, hlk, hmn, hsz, had, hns, hout⟩ := hC
  exact va_mabs_long (rest := st.map (zTv (zad G))) hx hb (by rw [hml]; exact hL.1.symm) hown (hts _ hl) (hts _ lms_abs) (hts _ lmi_abs) (hts _ lmc_abs) hR1 (by rw [zTv_cats]; exact hR2) hc hs hd K
theorem e_mminN (pc' : Nat) {a b : Nat} (hd : decode cc pc = .ok (.invokestatic idx, 3)) (hl : Cond.methodLink own idx Lib.Math.min.name ∈ zT) (hp : pc + 3 = pc') (hR1 : 1 ≤ R.frames) (hR2 : (st.map fun v => v.category).sum + 13 ≤ R.locals) (hc : n - n0 ≤ R.cells) (hs : zSl n - zSl n0 ≤ R.slots) (ha : a < 2 ^ 31) (hb : b < 2 ^ 31) (k : zE G R QQ own mn cc nL ret n0 pc' L (.int (nI (min a b)) :: st) n mi ml mr) : zE G R QQ own mn cc nL ret n0 pc L (.int (nI b) :: .int (nI a) :: st) n mi ml mr := by
  refine e_mmin pc' hd hl hp hR1 hR2 hc hs ?_
  have e : (if nI b < nI a then nI b else nI a) = nI (min a b) := by
    by_cases q : b < a
    · rw [if_pos ((nI_ltI hb ha).mpr q)]
      first | rw [Nat.min_eq_right (by omega)] | rw [Nat.max_eq_right (by omega)]
    · rw [if_neg (fun h => q ((nI_ltI hb ha).mp h))]
      first | rw [Nat.min_eq_left (by omega)] | rw [Nat.max_eq_left (by omega)]
  rw [e]
  exact k
theorem e_mmaxN (pc' : Nat) {a b : Nat} (hd : decode cc pc = .ok (.invokestatic idx, 3)) (hl : Cond.methodLink own idx Lib.Math.max.name ∈ zT) (hp : pc + 3 = pc') (hR1 : 1 ≤ R.frames) (hR2 : (st.map fun v => v.category).sum + 13 ≤ R.locals) (hc : n - n0 ≤ R.cells) (hs : zSl n - zSl n0 ≤ R.slots) (ha : a < 2 ^ 31) (hb : b < 2 ^ 31) (k : zE G R QQ own mn cc nL ret n0 pc' L (.int (nI (max a b)) :: st) n mi ml mr) : zE G R QQ own mn cc nL ret n0 pc L (.int (nI b) :: .int (nI a) :: st) n mi ml mr := by
  refine e_mmax pc' hd hl hp hR1 hR2 hc hs ?_
  have e : (if nI a < nI b then nI b else nI a) = nI (max a b) := by
    by_cases q : a < b
    · rw [if_pos ((nI_ltI ha hb).mpr q)]
      first | rw [Nat.min_eq_right (by omega)] | rw [Nat.max_eq_right (by omega)]
    · rw [if_neg (fun h => q ((nI_ltI ha hb).mp h))]
      first | rw [Nat.min_eq_left (by omega)] | rw [Nat.max_eq_left (by omega)]
  rw [e]
  exact k
end ZMATH
set_option maxHeartbeats 4000000 in
set_option maxRecDepth 100000 in
theorem l_J7_fill (G : zG) (d : Nat) (Q : zQ) {r : Nat} {ml : zFl} {mr : zFr} (hk : zKD r = 16) (hr : r < 238) (hl : zLN r < 2 ^ 31) : ∀ (k i : Nat) (mi : zFi), i + k = zLN r → (∀ mi', zOnly r mi mi' → (∀ j, j < zLN r → mi' r j = if i ≤ j then 0 else mi r j) → Q none mi' ml mr) → zE G (zRm d 238 238) (zQm G 238 238 Q) yJ7_fill_53178.cls yJ7_fill_53178.name cJ7_fill_53178 4 none 238 5 [.ref r, .int 0, .int (nI i), .int (nI (zLN r))] [] 238 mi ml mr := by
  intro k
  induction k with
  | zero =>
    intro i mi h hQ
    refine e_iload_n 6 dJ7_fill_53178_5 rfl rfl ?_
    refine e_iload_n 7 dJ7_fill_53178_6 rfl rfl ?_
    refine e_icmp_geN 20 10 dJ7_fill_53178_7 (by decide) rfl (by omega) (by omega) (fun h7 => ?_) (fun h7 => ?_)
    · refine e_vreturn dJ7_fill_53178_20 rfl ?_
      exact hQ mi (fun _ _ => rfl) (fun j hj => by rw [if_neg (by omega)])
    · exact absurd h7 (by omega)
  | succ k ih =>
    intro i mi h hQ
    refine e_iload_n 6 dJ7_fill_53178_5 rfl rfl ?_
    refine e_iload_n 7 dJ7_fill_53178_6 rfl rfl ?_
    refine e_icmp_geN 20 10 dJ7_fill_53178_7 (by decide) rfl (by omega) (by omega) (fun h7 => ?_) (fun h7 => ?_)
    · exact absurd h7 (by omega)
    · refine e_aload_n 11 dJ7_fill_53178_10 rfl rfl ?_
      refine e_iload_n 12 dJ7_fill_53178_11 rfl rfl ?_
      refine e_iload_n 13 dJ7_fill_53178_12 rfl rfl ?_
      refine e_iast 14 dJ7_fill_53178_13 rfl hk hr rfl (by omega) ?_
      refine e_iinc 17 dJ7_fill_53178_14 rfl (by decide) rfl (z_inc hii_1) (zst1_2 rfl) ?_
      refine e_goto 5 dJ7_fill_53178_17 (by decide) ?_
      refine ih (i + 1) _ (by omega) (fun mi' h1 h2 => hQ mi' (fun q hq => (h1 q hq).trans (zp_r _ _ _ hq)) (fun j hj => ?_))
      rw [h2 j hj]
      by_cases hji : j = i
      · subst hji; rw [if_neg (by omega), if_pos (Nat.le_refl j), zp_s]
      · by_cases hlt : i ≤ j
        · rw [if_pos (by omega), if_pos hlt]
        · rw [if_neg (by omega), if_neg hlt, zp_k _ _ hji]
set_option maxHeartbeats 4000000 in
set_option maxRecDepth 100000 in
theorem k_J7_fill_53178 (G : zG) {r : Nat} {mi : zFi} {ml : zFl} {mr : zFr} (hk : zKD r = 16) (hr : r < 238) : zMet G 0 yJ7_fill_53178 cJ7_fill_53178 4 none [.ref r, .int 0] 238 mi ml mr 238 (zPv fun a b c => zOnly r mi a ∧ (∀ j, j < zLN r → a r j = 0) ∧ b = ml ∧ c = mr) := by
  refine z_intro ([.ref r, .int 0, zx, zx]) (by decide) rfl (Nat.le_of_ble_eq_true rfl) ?_
  refine e_iconst 1 hic_0 dJ7_fill_53178_0 rfl ?_
  refine e_istore_n 2 dJ7_fill_53178_1 rfl (by decide) (zst1_2 rfl) ?_
  refine e_aload_n 3 dJ7_fill_53178_2 rfl rfl ?_
  refine e_alen 4 16 dJ7_fill_53178_3 rfl (by decide) (by decide) hk hr ?_
  refine e_istore_n 5 dJ7_fill_53178_4 rfl (by decide) (zst1_3 rfl) ?_
  rw [← nI_0]
  rw [nI_0]
  exact l_J7_fill G _ _ hk hr (by have := zLN_le r; omega) (zLN r) 0 mi (by omega) (fun mi' h1 h2 => ⟨rfl, h1, fun j hj => by rw [h2 j hj, if_pos (Nat.zero_le j)], rfl, rfl⟩)

set_option maxHeartbeats 4000000 in
set_option maxRecDepth 100000 in
theorem k_X7_mean (G : zG) {s P : Nat} {mi : zFi} {ml : zFl} {mr : zFr} (hs : s < 2 ^ 31) (hP : P < 2 ^ 31) : zMet G 0 yX7_mean cX7_mean 2 (some .int) [.int (nI s), .int (nI P)] 238 mi ml mr 238 (zPq (some (.int (nI (s / P)))) mi ml mr) := by
  refine z_intro ([.int (nI s), .int (nI P)]) (by decide) rfl (Nat.le_of_ble_eq_true rfl) ?_
  refine e_iload_n 1 dX7_mean_0 rfl rfl ?_
  refine e_if_leN 10 4 dX7_mean_1 (by decide) rfl (by omega) (fun h1 => ?_) (fun h1 => ?_)
  · refine e_iconst 11 hic_0 dX7_mean_10 rfl ?_
    refine e_ireturn .int dX7_mean_11 rfl rfl ?_
    exact ⟨by first | rfl | (subst h1; rw [Nat.div_zero]), rfl, rfl, rfl⟩
  · refine e_iload_n 5 dX7_mean_4 rfl rfl ?_
    refine e_iload_n 6 dX7_mean_5 rfl rfl ?_
    refine e_idivN 7 dX7_mean_6 rfl (by omega) (by omega) (by omega) ?_
    refine e_goto 11 dX7_mean_7 (by decide) ?_
    refine e_ireturn .int dX7_mean_11 rfl rfl ?_
    exact ⟨by first | rfl | (subst h1; rw [Nat.div_zero]), rfl, rfl, rfl⟩

set_option maxHeartbeats 4000000 in
set_option maxRecDepth 100000 in
theorem k_X0_nearness (G : zG) {D p q : Nat} {Λ : zLd} {mi : zFi} {ml : zFl} {mr : zFr} (hD : zLandL mr D) (hΛ : zLandR mi D Λ) (hp : p < 3) (hq : q < 3) : zMet G 0 yX0_nearness cX0_nearness 3 (some .int) [.ref D, .int (nI p), .int (nI q)] 238 mi ml mr 238 (zPq (some (.int (nI (Λ 1 (3 * p + q))))) mi ml mr) := by
  refine z_intro ([.ref D, .int (nI p), .int (nI q)]) (by decide) rfl (Nat.le_of_ble_eq_true rfl) ?_
  refine e_aload_n 1 dX0_nearness_0 rfl rfl ?_
  refine e_getr 4 dX0_nearness_1 lf_X0_9 rfl rfl hD.k0 hD.l0 hD.r1 ?_
  refine e_iload_n 5 dX0_nearness_4 rfl rfl ?_
  refine e_iconst 6 hic_3 dX0_nearness_5 rfl ?_
  first | refine e_imulN 7 dX0_nearness_6 rfl ?_ | refine e_imul 7 dX0_nearness_6 rfl ?_
  refine e_iload_n 8 dX0_nearness_7 rfl rfl ?_
  first | refine e_iaddN 9 dX0_nearness_8 rfl ?_ | refine e_iadd 9 dX0_nearness_8 rfl ?_
  refine e_iald 10 dX0_nearness_9 rfl hD.k1 (hD.l (j := 1) (by decide)) (by rw [Nat.mul_comm] : nI (p * 3 + q) = nI (3 * p + q)) (by rw [hD.n1]; omega) (hΛ.2.1 _ (by omega)) ?_
  refine e_ireturn .int dX0_nearness_10 rfl rfl ?_
  exact ⟨rfl, rfl, rfl, rfl⟩


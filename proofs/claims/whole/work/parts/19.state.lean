/-! ints from outside: tests and their Nats -/
def zK (v : Int32) : Nat := v.toInt.toNat
theorem zK_nI {k : Nat} (h : k < 2 ^ 31) : zK (nI k) = k := by unfold zK; rw [nI_toInt h]; rfl
def vR (v : Int32) (a b : Nat) : Prop := (a : Int) ≤ v.toInt ∧ v.toInt ≤ (b : Int)
def vN (v : Int32) (n : Nat) : Prop := (0 : Int) ≤ v.toInt ∧ v.toInt < (n : Int)
def vR_dec (v : Int32) (a b : Nat) : Decidable (vR v a b) := by unfold vR; exact inferInstance
def vN_dec (v : Int32) (n : Nat) : Decidable (vN v n) := by unfold vN; exact inferInstance
theorem nI_of_toInt {v : Int32} {k : Nat} (h : v.toInt = (k : Int)) : v = nI k := by
  have h1 : (k : Int) < 2 ^ 31 := by rw [← h]; exact v.toInt_lt
  apply Int32.toInt_inj.mp
  rw [h, nI_toInt (by omega)]
theorem vR.nat {v : Int32} {a b : Nat} (h : vR v a b) : v = nI (zK v) ∧ a ≤ zK v ∧ zK v ≤ b := by
  have h0 : (0 : Int) ≤ v.toInt := by have := h.1; omega
  have e : v.toInt = ((zK v : Nat) : Int) := by unfold zK; omega
  refine ⟨nI_of_toInt e, ?_, ?_⟩
  · have := h.1; omega
  · have := h.2; omega
theorem vN.nat {v : Int32} {n : Nat} (h : vN v n) : v = nI (zK v) ∧ zK v < n := by
  have e : v.toInt = ((zK v : Nat) : Int) := by unfold zK; have := h.1; omega
  exact ⟨nI_of_toInt e, by have := h.2; omega⟩
theorem vR_nI {k a b : Nat} (hk : k < 2 ^ 31) : vR (nI k) a b ↔ a ≤ k ∧ k ≤ b := by
  unfold vR
  rw [nI_toInt hk]
  omega
theorem vN_nI {k n : Nat} (hk : k < 2 ^ 31) : vN (nI k) n ↔ k < n := by
  unfold vN
  rw [nI_toInt hk]
  omega
/-- 1 or 0 -/
def zB (c : Prop) (d : Decidable c) : Int32 := if c then nI 1 else nI 0
theorem zB_1 {c : Prop} {d : Decidable c} (h : ¬ zB c d = 0) : c := by
  by_cases q : c
  · exact q
  · exact absurd (show zB c d = 0 by unfold zB; rw [if_neg q]; rfl) h
theorem zB_0 {c : Prop} {d : Decidable c} (h : zB c d = 0) : ¬ c := by
  intro q
  unfold zB at h
  rw [if_pos q] at h
  exact absurd h (by decide)
theorem zB_nar {c : Prop} {d : Decidable c} : narrow .boolean (.int (zB c d)) = .int (zB c d) := by
  unfold zB
  split <;> rfl
theorem zB_eq {c e : Prop} {d : Decidable c} {d' : Decidable e} (h : c ↔ e) : zB c d = zB e d' := by
  unfold zB
  by_cases q : c
  · rw [if_pos q, if_pos (h.mp q)]
  · rw [if_neg q, if_neg (fun r => q (h.mpr r))]
theorem vR_le {v : Int32} {a b : Nat} (ha : a < 2 ^ 31) (hb : b < 2 ^ 31) : (nI a ≤ v ∧ v ≤ nI b) ↔ vR v a b := by
  unfold vR
  rw [Int32.le_iff_toInt_le, Int32.le_iff_toInt_le, nI_toInt ha, nI_toInt hb]
theorem vN_le {v : Int32} {n : Nat} (hn : n < 2 ^ 31) : (nI 0 ≤ v ∧ v ≤ nI n - nI 1) ↔ vN v n := by
  unfold vN
  rw [Int32.le_iff_toInt_le, Int32.le_iff_toInt_le, nI_toInt (by decide)]
  rcases Nat.eq_zero_or_pos n with e | e
  · subst e
    rw [show (nI 0 - nI 1).toInt = -1 by decide]
    omega
  · rw [nI_sub e, nI_toInt (by omega)]
    omega
set_option maxHeartbeats 4000000 in
set_option maxRecDepth 100000 in
theorem k_X7_between (G : zG) {v a b : Int32} {mi : zFi} {ml : zFl} {mr : zFr} : zMet G 0 yX7_between cX7_between 3 (some .boolean) [.int v, .int a, .int b] 238 mi ml mr 238 (zPq (some (.int (zB (a ≤ v ∧ v ≤ b) inferInstance))) mi ml mr) := by
  refine z_intro ([.int v, .int a, .int b]) (by decide) rfl (Nat.le_of_ble_eq_true rfl) ?_
  refine e_iload_n 1 dX7_between_0 rfl rfl ?_
  refine e_iload_n 2 dX7_between_1 rfl rfl ?_
  refine e_icmp_lt 14 5 dX7_between_2 (by decide) rfl (fun h2 => ?_) (fun h2 => ?_)
  · refine e_iconst 15 hic_0 dX7_between_14 rfl ?_
    refine e_ireturn .boolean dX7_between_15 rfl rfl ?_
    refine ⟨?_, rfl, rfl, rfl⟩
    unfold zB
    by_cases q : a ≤ v ∧ v ≤ b
    · rw [if_pos q]
      all_goals first | rfl | exact absurd q.1 (Int32.not_le.mpr h2) | exact absurd q.2 (Int32.not_le.mpr h7)
    · rw [if_neg q]
      all_goals first | rfl | exact absurd ⟨Int32.not_lt.mp h2, Int32.not_lt.mp h7⟩ q
  · refine e_iload_n 6 dX7_between_5 rfl rfl ?_
    refine e_iload_n 7 dX7_between_6 rfl rfl ?_
    refine e_icmp_gt 14 10 dX7_between_7 (by decide) rfl (fun h7 => ?_) (fun h7 => ?_)
    · refine e_iconst 15 hic_0 dX7_between_14 rfl ?_
      refine e_ireturn .boolean dX7_between_15 rfl rfl ?_
      refine ⟨?_, rfl, rfl, rfl⟩
      unfold zB
      by_cases q : a ≤ v ∧ v ≤ b
      · rw [if_pos q]
        all_goals first | rfl | exact absurd q.1 (Int32.not_le.mpr h2) | exact absurd q.2 (Int32.not_le.mpr h7)
      · rw [if_neg q]
        all_goals first | rfl | exact absurd ⟨Int32.not_lt.mp h2, Int32.not_lt.mp h7⟩ q
    · refine e_iconst 11 hic_1 dX7_between_10 rfl ?_
      refine e_goto 15 dX7_between_11 (by decide) ?_
      refine e_ireturn .boolean dX7_between_15 rfl rfl ?_
      refine ⟨?_, rfl, rfl, rfl⟩
      unfold zB
      by_cases q : a ≤ v ∧ v ≤ b
      · rw [if_pos q]
        all_goals first | rfl | exact absurd q.1 (Int32.not_le.mpr h2) | exact absurd q.2 (Int32.not_le.mpr h7)
      · rw [if_neg q]
        all_goals first | rfl | exact absurd ⟨Int32.not_lt.mp h2, Int32.not_lt.mp h7⟩ q

theorem k_X7_btw (G : zG) {v : Int32} {a b : Nat} {mi : zFi} {ml : zFl} {mr : zFr} (ha : a < 2 ^ 31) (hb : b < 2 ^ 31) : zMet G 0 yX7_between cX7_between 3 (some .boolean) [.int v, .int (nI a), .int (nI b)] 238 mi ml mr 238 (zPq (some (.int (zB (vR v a b) (vR_dec v a b)))) mi ml mr) := by
  rw [← zB_eq (d := inferInstance) (vR_le (v := v) ha hb)]
  exact k_X7_between G
set_option maxHeartbeats 4000000 in
set_option maxRecDepth 100000 in
theorem k_X7_isAge (G : zG) {v : Int32} {mi : zFi} {ml : zFl} {mr : zFr} : zMet G 1 yX7_isAge cX7_isAge 1 (some .boolean) [.int v] 238 mi ml mr 238 (zPq (some (.int (zB (vR v 10 69) (vR_dec v 10 69)))) mi ml mr) := by
  refine z_intro ([.int v]) (by decide) rfl (Nat.le_of_ble_eq_true rfl) ?_
  refine e_iload_n 1 dX7_isAge_0 rfl rfl ?_
  refine e_bipush 3 hbi_10 dX7_isAge_1 rfl ?_
  refine e_bipush 5 hbi_69 dX7_isAge_3 rfl ?_
  refine c_Sqi 8 dX7_isAge_5 (k_X7_btw G (by decide) (by decide)) lm_X7_80 zt_yX7_between rfl rfl rfl (Nat.le_of_ble_eq_true rfl) (Nat.le_of_ble_eq_true rfl) (Nat.le_of_ble_eq_true rfl) (Nat.le_refl _) (Nat.le_refl _) ?_
  refine e_ireturn .boolean dX7_isAge_8 rfl zB_nar ?_
  exact ⟨rfl, rfl, rfl, rfl⟩

/-! the refs that stand: the class's object is cell 0, its land D, its spare land E; the reference is cell 224 -/
def zRf (mr : zFr) (D E : Nat) : Prop := ((D = 88 ∧ E = 94) ∨ (D = 94 ∧ E = 88)) ∧
  (mr 0 0 = some 1 ∧ mr 0 1 = some 3 ∧ mr 0 2 = some 65 ∧ mr 0 3 = some 66 ∧ mr 0 4 = some 67 ∧ mr 0 5 = some 69 ∧ mr 0 6 = some 72 ∧ mr 0 7 = some 77 ∧ mr 0 8 = some D ∧ mr 0 9 = some E) ∧
  (mr 1 0 = some 2 ∧ mr 65 0 = some 100 ∧ mr 65 1 = some 162 ∧ mr 67 5 = some 68 ∧ mr 69 1 = some 70 ∧ mr 69 2 = some 71) ∧
  (zMomL mr 3 ∧ zMomL mr 100 ∧ zMomL mr 162 ∧ zSongL mr 72 ∧ zLife mr 77 ∧ zLandL mr 88 ∧ zLandL mr 94) ∧
  (mr 224 2 = some 225 ∧ mr 224 3 = some 226 ∧ mr 224 4 = some 227 ∧ mr 224 5 = some 228 ∧ mr 224 6 = some 229 ∧ mr 224 13 = some 230 ∧ mr 224 14 = some 231 ∧ mr 224 15 = some 232 ∧ mr 224 22 = some 233 ∧ mr 224 24 = some 234 ∧ mr 224 26 = some 235 ∧ mr 224 27 = some 236 ∧ mr 224 28 = some 237)
section ZRF
variable {mr : zFr} {D E : Nat}
theorem zRf.reader (h : zRf mr D E) : mr 0 0 = some 1 := h.2.1.1
theorem zRf.now (h : zRf mr D E) : mr 0 1 = some 3 := h.2.1.2.1
theorem zRf.images (h : zRf mr D E) : mr 0 2 = some 65 := h.2.1.2.2.1
theorem zRf.kept (h : zRf mr D E) : mr 0 3 = some 66 := h.2.1.2.2.2.1
theorem zRf.letter (h : zRf mr D E) : mr 0 4 = some 67 := h.2.1.2.2.2.2.1
theorem zRf.writings (h : zRf mr D E) : mr 0 5 = some 69 := h.2.1.2.2.2.2.2.1
theorem zRf.noSongs (h : zRf mr D E) : mr 0 6 = some 72 := h.2.1.2.2.2.2.2.2.1
theorem zRf.trial (h : zRf mr D E) : mr 0 7 = some 77 := h.2.1.2.2.2.2.2.2.2.1
theorem zRf.land (h : zRf mr D E) : mr 0 8 = some D := h.2.1.2.2.2.2.2.2.2.2.1
theorem zRf.spare (h : zRf mr D E) : mr 0 9 = some E := h.2.1.2.2.2.2.2.2.2.2.2
theorem zRf.text (h : zRf mr D E) : mr 1 0 = some 2 := h.2.2.1.1
theorem zRf.im0 (h : zRf mr D E) : mr 65 0 = some 100 := h.2.2.1.2.1
theorem zRf.im1 (h : zRf mr D E) : mr 65 1 = some 162 := h.2.2.1.2.2.1
theorem zRf.lshares (h : zRf mr D E) : mr 67 5 = some 68 := h.2.2.1.2.2.2.1
theorem zRf.wyears (h : zRf mr D E) : mr 69 1 = some 70 := h.2.2.1.2.2.2.2.1
theorem zRf.wwords (h : zRf mr D E) : mr 69 2 = some 71 := h.2.2.1.2.2.2.2.2
theorem zRf.m3 (h : zRf mr D E) : zMomL mr 3 := h.2.2.2.1.1
theorem zRf.m100 (h : zRf mr D E) : zMomL mr 100 := h.2.2.2.1.2.1
theorem zRf.m162 (h : zRf mr D E) : zMomL mr 162 := h.2.2.2.1.2.2.1
theorem zRf.s72 (h : zRf mr D E) : zSongL mr 72 := h.2.2.2.1.2.2.2.1
theorem zRf.l77 (h : zRf mr D E) : zLife mr 77 := h.2.2.2.1.2.2.2.2.1
theorem zRf.d88 (h : zRf mr D E) : zLandL mr 88 := h.2.2.2.1.2.2.2.2.2.1
theorem zRf.d94 (h : zRf mr D E) : zLandL mr 94 := h.2.2.2.1.2.2.2.2.2.2
theorem zRf.dD (h : zRf mr D E) : zLandL mr D := by rcases h.1 with q | q <;> rw [q.1] <;> first | exact h.d88 | exact h.d94
theorem zRf.dE (h : zRf mr D E) : zLandL mr E := by rcases h.1 with q | q <;> rw [q.2] <;> first | exact h.d88 | exact h.d94
theorem zRf.Dl (h : zRf mr D E) : 88 ≤ D ∧ D + 6 ≤ 100 := by rcases h.1 with q | q <;> omega
theorem zRf.El (h : zRf mr D E) : 88 ≤ E ∧ E + 6 ≤ 100 := by rcases h.1 with q | q <;> omega
theorem zRf.DE (h : zRf mr D E) : D + 6 ≤ E ∨ E + 6 ≤ D := by rcases h.1 with q | q <;> omega
end ZRF
/-- a moment: year, lot, songs, lives -/
abbrev zMo : Type := Nat × Int32 × zLd × (Nat → zSt)
def zMoR (mi : zFi) (B : Nat) (Λ : zLd) (m : zMo) : Prop := zMomR mi B (Λ 0 0) (Λ 0 1) m.1 m.2.1 m.2.2.1 m.2.2.2
/-- the notes of the year as it is are those of the shares as they are -/
def zFine (N y : Nat) (x : zSt) : Prop := (∀ p, p < N → x.2.1 p y = zYoung (x.1 p)) ∧ x.2.2 y = zsum (fun p => zPar (x.1 p)) 0 N / N
def zMoW (Λ : zLd) (m : zMo) : Prop := m.1 ≤ 99 ∧ zSongW (Λ 0 0) (Λ 0 1) m.2.2.1 ∧ ∀ w, w < Λ 0 1 → zStW (Λ 0 0) m.1 (m.2.2.2 w) ∧ zFine (Λ 0 0) m.1 (m.2.2.2 w)
/-- the text: how many bytes, the bytes; the letter: told, words, year, age, place; the writings: how many, year, age, word of each -/
abbrev zTx : Type := Nat × (Nat → Nat)
abbrev zLt : Type := Nat × Nat × Nat × Nat × Nat
abbrev zWr : Type := Nat × (Nat → Nat) × (Nat → Nat) × (Nat → Nat)
/-- the int that a writing is kept as -/
def zWv (y a : Nat) : Int32 := nI y - nI a + nI 16
def zXt (mi : zFi) (t : zTx) : Prop := mi 1 1 = nI t.1 ∧ ∀ k, k < t.1 → mi 2 k = nI (t.2 k)
def zXi (mi : zFi) (Λ : zLd) (im : Nat → Nat × zMo) : Prop := (mi 66 0 = nI (im 0).1 ∧ mi 66 1 = nI (im 1).1) ∧ ((im 0).1 = 1 → zMoR mi 100 Λ (im 0).2) ∧ ((im 1).1 = 1 → zMoR mi 162 Λ (im 1).2)
def zXl (mi : zFi) (l : zLt) : Prop := mi 67 0 = nI l.1 ∧ (l.1 = 1 → mi 67 1 = nI l.2.1 ∧ mi 67 2 = nI l.2.2.1 ∧ mi 67 3 = nI l.2.2.2.1 ∧ mi 67 4 = nI l.2.2.2.2)
def zXw (mi : zFi) (r : zWr) : Prop := mi 69 0 = nI r.1 ∧ ∀ k, k < r.1 → mi 70 k = zWv (r.2.1 k) (r.2.2.1 k) ∧ mi 71 k = nI (r.2.2.2 k)
/-- the class's cells -/
def zX (mi : zFi) (ml : zFl) (D : Nat) (Λ : zLd) (late : Nat) (tr : Int64) (t : zTx) (m : zMo) (im : Nat → Nat × zMo) (l : zLt) (r : zWr) : Prop :=
  zLandR mi D Λ ∧ mi 0 10 = nI late ∧ ml 0 11 = tr ∧ zXt mi t ∧ zMoR mi 3 Λ m ∧ zXi mi Λ im ∧ zXl mi l ∧ zXw mi r ∧ mi 72 0 = nI 0
def zWf (Λ : zLd) (late : Nat) (t : zTx) (m : zMo) (im : Nat → Nat × zMo) (l : zLt) (r : zWr) : Prop :=
  zLandW Λ ∧ late ≤ 30 ∧ (t.1 ≤ 300 ∧ ∀ k, k < t.1 → t.2 k < 256) ∧ zMoW Λ m ∧ (∀ i, i < 2 → (im i).1 ≤ 1 ∧ ((im i).1 = 1 → zMoW Λ (im i).2)) ∧
  (l.1 ≤ 1 ∧ (l.1 = 1 → l.2.1 < 2 ^ Λ 0 1 ∧ l.2.2.1 ≤ 99 ∧ 10 ≤ l.2.2.2.1 ∧ l.2.2.2.1 ≤ 69 ∧ l.2.2.2.2 < Λ 0 0)) ∧ r.1 ≤ 40 ∧ ∀ k, k < r.1 → r.2.1 k ≤ 99 ∧ 10 ≤ r.2.2.1 k ∧ r.2.2.1 k ≤ 69 ∧ r.2.2.2 k < Λ 0 1
section ZXC
variable {mi mi' : zFi} {Λ : zLd}
theorem zXt.c {t : zTx} (h : zXt mi t) (e1 : mi' 1 = mi 1) (e2 : mi' 2 = mi 2) : zXt mi' t := ⟨by rw [e1]; exact h.1, fun k hk => by rw [e2]; exact h.2 k hk⟩
theorem zMoR.c {B : Nat} {m : zMo} (hW : zLandW Λ) (h : zMoR mi B Λ m) (e : ∀ q, B ≤ q → q < B + 62 → mi' q = mi q) : zMoR mi' B Λ m := zMomR.congr hW.1.1 hW.1.2.1 h e
theorem zXi.c {im : Nat → Nat × zMo} (hW : zLandW Λ) (h : zXi mi Λ im) (e1 : mi' 66 = mi 66) (e2 : ∀ q, 100 ≤ q → q < 224 → mi' q = mi q) : zXi mi' Λ im := ⟨by rw [e1]; exact h.1, fun g => (h.2.1 g).c hW (fun q h1 h2 => e2 q h1 (by omega)), fun g => (h.2.2 g).c hW (fun q h1 h2 => e2 q (by omega) h2)⟩
theorem zXl.c {l : zLt} (h : zXl mi l) (e1 : mi' 67 = mi 67) : zXl mi' l := by unfold zXl; rw [e1]; exact h
theorem zXw.c {r : zWr} (h : zXw mi r) (e1 : mi' 69 = mi 69) (e2 : mi' 70 = mi 70) (e3 : mi' 71 = mi 71) : zXw mi' r := by unfold zXw; rw [e1, e2, e3]; exact h
end ZXC
set_option maxHeartbeats 4000000 in
set_option maxRecDepth 100000 in
theorem k_X7_isPlace (G : zG) {D E : Nat} {Λ : zLd} {mi : zFi} {ml : zFl} {mr : zFr} (hr : zRf mr D E) (hΛ : zLandR mi D Λ) (hW : zLandW Λ) {v : Int32} : zMet G 1 yX7_isPlace cX7_isPlace 2 (some .boolean) [.ref 0, .int v] 238 mi ml mr 238 (zPq (some (.int (zB (vN v (Λ 0 0)) (vN_dec v (Λ 0 0))))) mi ml mr) := by
  refine z_intro ([.ref 0, .int v]) (by decide) rfl (Nat.le_of_ble_eq_true rfl) ?_
  refine e_iload_n 1 dX7_isPlace_0 rfl rfl ?_
  refine e_iconst 2 hic_0 dX7_isPlace_1 rfl ?_
  refine e_aload_n 3 dX7_isPlace_2 rfl rfl ?_
  refine e_getr 6 dX7_isPlace_3 lf_X7_62 rfl rfl rfl (by decide) hr.land ?_
  refine e_geti 9 dX7_isPlace_6 lf_X7_184 rfl rfl hr.dD.k0 hr.dD.l0 (hΛ.f0) ?_
  refine e_iconst 10 hic_1 dX7_isPlace_9 rfl ?_
  refine e_isub 11 dX7_isPlace_10 rfl ?_
  refine c_Sqi 14 dX7_isPlace_11 (k_X7_between G) lm_X7_80 zt_yX7_between rfl rfl rfl (Nat.le_of_ble_eq_true rfl) (Nat.le_of_ble_eq_true rfl) (Nat.le_of_ble_eq_true rfl) (Nat.le_refl _) (Nat.le_refl _) ?_
  refine e_ireturn .boolean dX7_isPlace_14 rfl zB_nar ?_
  exact ⟨by rw [zB_eq (vN_le (v := v) (n := Λ 0 0) (by have := hW.1; omega))], rfl, rfl, rfl⟩

set_option maxHeartbeats 4000000 in
set_option maxRecDepth 100000 in
theorem k_X7_isWord (G : zG) {D E : Nat} {Λ : zLd} {mi : zFi} {ml : zFl} {mr : zFr} (hr : zRf mr D E) (hΛ : zLandR mi D Λ) (hW : zLandW Λ) {v : Int32} : zMet G 1 yX7_isWord cX7_isWord 2 (some .boolean) [.ref 0, .int v] 238 mi ml mr 238 (zPq (some (.int (zB (vN v (Λ 0 1)) (vN_dec v (Λ 0 1))))) mi ml mr) := by
  refine z_intro ([.ref 0, .int v]) (by decide) rfl (Nat.le_of_ble_eq_true rfl) ?_
  refine e_iload_n 1 dX7_isWord_0 rfl rfl ?_
  refine e_iconst 2 hic_0 dX7_isWord_1 rfl ?_
  refine e_aload_n 3 dX7_isWord_2 rfl rfl ?_
  refine e_getr 6 dX7_isWord_3 lf_X7_62 rfl rfl rfl (by decide) hr.land ?_
  refine e_geti 9 dX7_isWord_6 lf_X7_222 rfl rfl hr.dD.k0 hr.dD.l0 (hΛ.f1) ?_
  refine e_iconst 10 hic_1 dX7_isWord_9 rfl ?_
  refine e_isub 11 dX7_isWord_10 rfl ?_
  refine c_Sqi 14 dX7_isWord_11 (k_X7_between G) lm_X7_80 zt_yX7_between rfl rfl rfl (Nat.le_of_ble_eq_true rfl) (Nat.le_of_ble_eq_true rfl) (Nat.le_of_ble_eq_true rfl) (Nat.le_refl _) (Nat.le_refl _) ?_
  refine e_ireturn .boolean dX7_isWord_14 rfl zB_nar ?_
  exact ⟨by rw [zB_eq (vN_le (v := v) (n := Λ 0 1) (by have := hW.1; omega))], rfl, rfl, rfl⟩

set_option maxHeartbeats 4000000 in
set_option maxRecDepth 100000 in
theorem k_X7_isCoined (G : zG) {D E : Nat} {Λ : zLd} {mi : zFi} {ml : zFl} {mr : zFr} (hr : zRf mr D E) (hΛ : zLandR mi D Λ) (hW : zLandW Λ) {w y : Nat} (hw : w < Λ 0 1) (hy0 : mi 3 0 = nI y) (hy : y ≤ 99) : zMet G 0 yX7_isCoined cX7_isCoined 2 (some .boolean) [.ref 0, .int (nI w)] 238 mi ml mr 238 (zPq (some (.int (zB (Λ 3 w ≤ y) inferInstance))) mi ml mr) := by
  refine z_intro ([.ref 0, .int (nI w)]) (by decide) rfl (Nat.le_of_ble_eq_true rfl) ?_
  refine e_aload_n 1 dX7_isCoined_0 rfl rfl ?_
  refine e_getr 4 dX7_isCoined_1 lf_X7_62 rfl rfl rfl (by decide) hr.land ?_
  refine e_getr 7 dX7_isCoined_4 lf_X7_133 rfl rfl hr.dD.k0 hr.dD.l0 hr.dD.r3 ?_
  refine e_iload_n 8 dX7_isCoined_7 rfl rfl ?_
  refine e_iald 9 dX7_isCoined_8 rfl hr.dD.k3 (hr.dD.l (j := 3) (by decide)) rfl (by rw [hr.dD.n3]; have := hW.1.2.1; omega) (hΛ.2.2 w hw).2.1 ?_
  refine e_aload_n 10 dX7_isCoined_9 rfl rfl ?_
  refine e_getr 13 dX7_isCoined_10 lf_X7_19 rfl rfl rfl (by decide) hr.now ?_
  refine e_geti 16 dX7_isCoined_13 lf_X7_145 rfl rfl rfl (by decide) hy0 ?_
  refine e_icmp_gtN 23 19 dX7_isCoined_16 (by decide) rfl (by have := hW.2.2 w hw; omega) (by omega) (fun h16 => ?_) (fun h16 => ?_)
  · refine e_iconst 24 hic_0 dX7_isCoined_23 rfl ?_
    refine e_ireturn .boolean dX7_isCoined_24 rfl rfl ?_
    exact ⟨by unfold zB; first | rw [if_pos (by omega)] | rw [if_neg (by omega)], rfl, rfl, rfl⟩
  · refine e_iconst 20 hic_1 dX7_isCoined_19 rfl ?_
    refine e_goto 24 dX7_isCoined_20 (by decide) ?_
    refine e_ireturn .boolean dX7_isCoined_24 rfl rfl ?_
    exact ⟨by unfold zB; first | rw [if_pos (by omega)] | rw [if_neg (by omega)], rfl, rfl, rfl⟩


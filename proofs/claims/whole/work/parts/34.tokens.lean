def zDig (c : Nat) : Bool := decide (48 ≤ c) && decide (c ≤ 57)
def zLtr (c : Nat) : Bool := decide (97 ≤ c) && decide (c ≤ 122)
def zSpc (c : Nat) : Bool := decide (c = 32)
theorem zDig_i {c : Nat} : zDig c = true ↔ 48 ≤ c ∧ c ≤ 57 := by unfold zDig; rw [Bool.and_eq_true, decide_eq_true_iff, decide_eq_true_iff]
theorem zLtr_i {c : Nat} : zLtr c = true ↔ 97 ≤ c ∧ c ≤ 122 := by unfold zLtr; rw [Bool.and_eq_true, decide_eq_true_iff, decide_eq_true_iff]
theorem zSpc_i {c : Nat} : zSpc c = true ↔ c = 32 := by unfold zSpc; rw [decide_eq_true_iff]
/-- how far bytes with P go from i on, k of them at most -/
def zRunF (P : Nat → Bool) (f : Nat → Nat) : Nat → Nat → Nat
  | 0, i => i
  | k + 1, i => if P (f i) = true then zRunF P f k (i + 1) else i
def zRun (P : Nat → Bool) (t : zTx) (i : Nat) : Nat := zRunF P t.2 (t.1 - i) i
theorem zRunF_b (P : Nat → Bool) (f : Nat → Nat) : ∀ (k i : Nat), i ≤ zRunF P f k i ∧ zRunF P f k i ≤ i + k
  | 0, i => ⟨Nat.le_refl _, Nat.le_refl _⟩
  | k + 1, i => by
    have h := zRunF_b P f k (i + 1)
    show i ≤ (if P (f i) = true then zRunF P f k (i + 1) else i) ∧ (if P (f i) = true then zRunF P f k (i + 1) else i) ≤ _
    split <;> omega
theorem zRun_ge (P : Nat → Bool) (t : zTx) (i : Nat) : i ≤ zRun P t i := (zRunF_b P t.2 _ i).1
theorem zRun_le (P : Nat → Bool) {t : zTx} {i : Nat} (h : i ≤ t.1) : zRun P t i ≤ t.1 := by
  have := (zRunF_b P t.2 (t.1 - i) i).2
  unfold zRun
  omega
theorem zRun_1 {P : Nat → Bool} {t : zTx} {i : Nat} (h : i < t.1) (hP : P (t.2 i) = true) : i + 1 ≤ zRun P t i := by
  unfold zRun
  rw [show t.1 - i = t.1 - (i + 1) + 1 by omega]
  show i + 1 ≤ (if P (t.2 i) = true then _ else i)
  rw [if_pos hP]
  exact (zRunF_b P t.2 _ (i + 1)).1
/-- the number that digits make -/
def zValF (f : Nat → Nat) : Nat → Nat → Int32 → Int32
  | 0, _, v => v
  | k + 1, i, v => if zDig (f i) = true then zValF f k (i + 1) (v * nI 10 + nI (f i) - nI 48) else v
def zVal (t : zTx) (a : Nat) : Int32 := zValF t.2 (t.1 - a) a (nI 0)
def zNumK (t : zTx) (a e : Nat) : Nat := if e - a = 1 ∨ (e - a = 2 ∧ ¬ t.2 a = 48) then 3 else 1
/-- the token from b on: its first byte, its kind, the byte behind it -/
def zTkA (t : zTx) (b : Nat) : Nat := zRun zSpc t b
def zTkE (t : zTx) (b : Nat) : Nat := if t.1 ≤ zTkA t b then zTkA t b else if zDig (t.2 (zTkA t b)) = true then zRun zDig t (zTkA t b) else if zLtr (t.2 (zTkA t b)) = true then zRun zLtr t (zTkA t b) else zTkA t b + 1
def zTkK (t : zTx) (b : Nat) : Nat := if t.1 ≤ zTkA t b then 0 else if zDig (t.2 (zTkA t b)) = true then zNumK t (zTkA t b) (zRun zDig t (zTkA t b)) else if zLtr (t.2 (zTkA t b)) = true then 4 else if t.2 (zTkA t b) = 59 then 2 else 1
def zTkV (t : zTx) (b : Nat) : Int32 := zVal t (zTkA t b)
theorem zTk_b {t : zTx} {b : Nat} (h : b ≤ t.1) : b ≤ zTkA t b ∧ zTkA t b ≤ t.1 ∧ zTkA t b ≤ zTkE t b ∧ zTkE t b ≤ t.1 ∧ (¬ zTkK t b = 0 → b < zTkE t b) := by
  have h1 := zRun_ge zSpc t b
  have h2 := zRun_le zSpc h
  have e : zTkA t b = zRun zSpc t b := rfl
  rw [← e] at h1 h2
  have key : zTkA t b ≤ zTkE t b ∧ zTkE t b ≤ t.1 ∧ (¬ zTkK t b = 0 → zTkA t b < zTkE t b) := by
    unfold zTkE zTkK
    by_cases q : t.1 ≤ zTkA t b
    · rw [if_pos q, if_pos q]
      exact ⟨Nat.le_refl _, h2, fun z => absurd rfl z⟩
    · rw [if_neg q, if_neg q]
      by_cases q2 : zDig (t.2 (zTkA t b)) = true
      · rw [if_pos q2]
        have g1 := zRun_1 (by omega) q2
        exact ⟨by omega, zRun_le _ h2, fun _ => by omega⟩
      · rw [if_neg q2]
        by_cases q3 : zLtr (t.2 (zTkA t b)) = true
        · rw [if_pos q3]
          have g1 := zRun_1 (by omega) q3
          exact ⟨by omega, zRun_le _ h2, fun _ => by omega⟩
        · rw [if_neg q3]
          exact ⟨by omega, by omega, fun _ => by omega⟩
  exact ⟨h1, h2, key.1, key.2.1, fun z => by have := key.2.2 z; omega⟩
/-- cell 1 but for its fields in J; all other cells -/
def zFq (J : Nat → Prop) (u s : zFi) : Prop := (∀ q, q ≠ 1 → u q = s q) ∧ ∀ j, ¬ J j → u 1 j = s 1 j
theorem zFq.r {J : Nat → Prop} (s : zFi) : zFq J s s := ⟨fun _ _ => rfl, fun _ _ => rfl⟩
theorem zFq.p {J : Nat → Prop} {u s : zFi} (h : zFq J u s) {k : Nat} {v : Int32} (hk : J k) : zFq J (zp u 1 k v) s := ⟨fun q hq => by rw [zp_r _ _ _ hq]; exact h.1 q hq, fun j hj => by rw [zp_k _ _ (show j ≠ k from fun e => hj (by rw [e]; exact hk))]; exact h.2 j hj⟩
theorem zFq.t {J : Nat → Prop} {u v s : zFi} (h1 : zFq J u v) (h2 : zFq J v s) : zFq J u s := ⟨fun q hq => (h1.1 q hq).trans (h2.1 q hq), fun j hj => (h1.2 j hj).trans (h2.2 j hj)⟩
theorem zFq.w {J K : Nat → Prop} {u s : zFi} (h : zFq J u s) (hJ : ∀ j, J j → K j) : zFq K u s := ⟨h.1, fun j hj => h.2 j (fun z => hj (hJ j z))⟩
theorem zFq.x {J : Nat → Prop} {u s : zFi} {t : zTx} (h : zFq J u s) (h1 : ¬ J 1) (ht : zXt s t) : zXt u t := ⟨by rw [h.2 1 h1]; exact ht.1, fun k hk => by rw [h.1 2 (by decide)]; exact ht.2 k hk⟩
/-- what the reader holds of a token -/
def zTkR (u : zFi) (t : zTx) (b : Nat) : Prop := u 1 2 = nI (zTkK t b) ∧ u 1 3 = nI (zTkA t b) ∧ u 1 4 = nI (zTkE t b) ∧ (zTkK t b = 3 → u 1 5 = zTkV t b)
def zJ4 (j : Nat) : Prop := j = 4
def zJ245 (j : Nat) : Prop := j = 2 ∨ j = 4 ∨ j = 5
def zJ25 (j : Nat) : Prop := 2 ≤ j ∧ j ≤ 5
def zTxW (t : zTx) : Prop := t.1 ≤ 300 ∧ ∀ k, k < t.1 → t.2 k < 256
set_option maxHeartbeats 4000000 in
set_option maxRecDepth 100000 in
theorem k_X4_isDigit (G : zG) {c9 : Nat} (hc9 : c9 < 256) {mi : zFi} {ml : zFl} {mr : zFr} : zMet G 0 yX4_isDigit cX4_isDigit 1 (some .boolean) [.int (nI c9)] 238 mi ml mr 238 (zPq (some (.int (zB (zDig c9 = true) inferInstance))) mi ml mr) := by
  refine z_intro ([.int (nI c9)]) (by decide) rfl (Nat.le_of_ble_eq_true rfl) ?_
  refine e_iload_n 1 dX4_isDigit_0 rfl rfl ?_
  refine e_bipush 3 hbi_48 dX4_isDigit_1 rfl ?_
  refine e_icmp_ltN 16 6 dX4_isDigit_3 (by decide) rfl (by omega) (by omega) (fun h3 => ?_) (fun h3 => ?_)
  · refine e_iconst 17 hic_0 dX4_isDigit_16 rfl ?_
    refine e_ireturn .boolean dX4_isDigit_17 rfl rfl ?_
    exact ⟨by unfold zB; first | rw [if_pos (zDig_i.mpr (by omega))] | rw [if_neg (fun z => absurd (zDig_i.mp z) (by omega))], rfl, rfl, rfl⟩
  · refine e_iload_n 7 dX4_isDigit_6 rfl rfl ?_
    refine e_bipush 9 hbi_57 dX4_isDigit_7 rfl ?_
    refine e_icmp_gtN 16 12 dX4_isDigit_9 (by decide) rfl (by omega) (by omega) (fun h9 => ?_) (fun h9 => ?_)
    · refine e_iconst 17 hic_0 dX4_isDigit_16 rfl ?_
      refine e_ireturn .boolean dX4_isDigit_17 rfl rfl ?_
      exact ⟨by unfold zB; first | rw [if_pos (zDig_i.mpr (by omega))] | rw [if_neg (fun z => absurd (zDig_i.mp z) (by omega))], rfl, rfl, rfl⟩
    · refine e_iconst 13 hic_1 dX4_isDigit_12 rfl ?_
      refine e_goto 17 dX4_isDigit_13 (by decide) ?_
      refine e_ireturn .boolean dX4_isDigit_17 rfl rfl ?_
      exact ⟨by unfold zB; first | rw [if_pos (zDig_i.mpr (by omega))] | rw [if_neg (fun z => absurd (zDig_i.mp z) (by omega))], rfl, rfl, rfl⟩

set_option maxHeartbeats 4000000 in
set_option maxRecDepth 100000 in
theorem k_X4_isLetter (G : zG) {c9 : Nat} (hc9 : c9 < 256) {mi : zFi} {ml : zFl} {mr : zFr} : zMet G 0 yX4_isLetter cX4_isLetter 1 (some .boolean) [.int (nI c9)] 238 mi ml mr 238 (zPq (some (.int (zB (zLtr c9 = true) inferInstance))) mi ml mr) := by
  refine z_intro ([.int (nI c9)]) (by decide) rfl (Nat.le_of_ble_eq_true rfl) ?_
  refine e_iload_n 1 dX4_isLetter_0 rfl rfl ?_
  refine e_bipush 3 hbi_97 dX4_isLetter_1 rfl ?_
  refine e_icmp_ltN 16 6 dX4_isLetter_3 (by decide) rfl (by omega) (by omega) (fun h3 => ?_) (fun h3 => ?_)
  · refine e_iconst 17 hic_0 dX4_isLetter_16 rfl ?_
    refine e_ireturn .boolean dX4_isLetter_17 rfl rfl ?_
    exact ⟨by unfold zB; first | rw [if_pos (zLtr_i.mpr (by omega))] | rw [if_neg (fun z => absurd (zLtr_i.mp z) (by omega))], rfl, rfl, rfl⟩
  · refine e_iload_n 7 dX4_isLetter_6 rfl rfl ?_
    refine e_bipush 9 hbi_122 dX4_isLetter_7 rfl ?_
    refine e_icmp_gtN 16 12 dX4_isLetter_9 (by decide) rfl (by omega) (by omega) (fun h9 => ?_) (fun h9 => ?_)
    · refine e_iconst 17 hic_0 dX4_isLetter_16 rfl ?_
      refine e_ireturn .boolean dX4_isLetter_17 rfl rfl ?_
      exact ⟨by unfold zB; first | rw [if_pos (zLtr_i.mpr (by omega))] | rw [if_neg (fun z => absurd (zLtr_i.mp z) (by omega))], rfl, rfl, rfl⟩
    · refine e_iconst 13 hic_1 dX4_isLetter_12 rfl ?_
      refine e_goto 17 dX4_isLetter_13 (by decide) ?_
      refine e_ireturn .boolean dX4_isLetter_17 rfl rfl ?_
      exact ⟨by unfold zB; first | rw [if_pos (zLtr_i.mpr (by omega))] | rw [if_neg (fun z => absurd (zLtr_i.mp z) (by omega))], rfl, rfl, rfl⟩

theorem zJ4_n {j : Nat} (h : j ≠ 4) : ¬ zJ4 j := h
set_option maxHeartbeats 4000000 in
set_option maxRecDepth 100000 in
theorem l_X4_letters (G : zG) (d : Nat) (Q : zQ) {D E : Nat} {t : zTx} {ml : zFl} {mr : zFr} (hr : zRf mr D E) (htw : zTxW t) : ∀ (k i : Nat) (s : zFi), i + k = t.1 → zXt s t → s 1 4 = nI i → (∀ u, u 1 4 = nI (zRunF zLtr t.2 k i) → zFq zJ4 u s → zE G (zRm (d + 1) 238 238) (zQm G 238 238 Q) yX4_takeLetters.cls yX4_takeLetters.name cX4_takeLetters 1 none 238 39 [.ref 1] [] 238 u ml mr) → zE G (zRm (d + 1) 238 238) (zQm G 238 238 Q) yX4_takeLetters.cls yX4_takeLetters.name cX4_takeLetters 1 none 238 0 [.ref 1] [] 238 s ml mr := by
  intro k
  induction k with
  | zero =>
    intro i s h hx hs hQ
    have ht3 := htw.1
    refine e_aload_n 1 dX4_takeLetters_0 rfl rfl ?_
    refine e_geti 4 dX4_takeLetters_1 lf_X4_33 rfl rfl rfl (by decide) hs ?_
    refine e_aload_n 5 dX4_takeLetters_4 rfl rfl ?_
    refine e_geti 8 dX4_takeLetters_5 lf_X4_15 rfl rfl rfl (by decide) hx.1 ?_
    refine e_icmp_geN 39 11 dX4_takeLetters_8 (by decide) rfl (by omega) (by omega) (fun h8 => ?_) (fun h8 => ?_)
    · exact hQ s hs (zFq.r s)
    · exact absurd h8 (by omega)
  | succ k ih =>
    intro i s h hx hs hQ
    have ht3 := htw.1
    refine e_aload_n 1 dX4_takeLetters_0 rfl rfl ?_
    refine e_geti 4 dX4_takeLetters_1 lf_X4_33 rfl rfl rfl (by decide) hs ?_
    refine e_aload_n 5 dX4_takeLetters_4 rfl rfl ?_
    refine e_geti 8 dX4_takeLetters_5 lf_X4_15 rfl rfl rfl (by decide) hx.1 ?_
    refine e_icmp_geN 39 11 dX4_takeLetters_8 (by decide) rfl (by omega) (by omega) (fun h8 => ?_) (fun h8 => ?_)
    · exact absurd h8 (by omega)
    · refine e_aload_n 12 dX4_takeLetters_11 rfl rfl ?_
      refine e_getr 15 dX4_takeLetters_12 lf_X4_9 rfl rfl rfl (by decide) hr.text ?_
      refine e_aload_n 16 dX4_takeLetters_15 rfl rfl ?_
      refine e_geti 19 dX4_takeLetters_16 lf_X4_33 rfl rfl rfl (by decide) hs ?_
      refine e_cald 20 dX4_takeLetters_19 rfl rfl (by decide) rfl (by show _ < 300; omega) (hx.2 i h8) ?_
      refine c_Sqi 23 dX4_takeLetters_20 (k_X4_isLetter G (htw.2 i h8)) lm_X4_127 zt_yX4_isLetter rfl rfl rfl (Nat.le_of_ble_eq_true rfl) (Nat.le_of_ble_eq_true rfl) (Nat.le_of_ble_eq_true rfl) (by exact Nat.le_refl _) (by exact Nat.le_refl _) ?_
      refine e_if_eq 39 26 dX4_takeLetters_23 (by decide) rfl (fun h23 => ?_) (fun h23 => ?_)
      · have h23 := zB_0 h23
        rw [show zRunF zLtr t.2 (k + 1) i = if zLtr (t.2 i) = true then zRunF zLtr t.2 k (i + 1) else i from rfl, if_neg h23] at hQ
        exact hQ s hs (zFq.r s)
      · have h23 := zB_1 h23
        refine e_aload_n 27 dX4_takeLetters_26 rfl rfl ?_
        refine e_dup 28 dX4_takeLetters_27 rfl rfl ?_
        refine e_geti 31 dX4_takeLetters_28 lf_X4_33 rfl rfl rfl (by decide) hs ?_
        refine e_iconst 32 hic_1 dX4_takeLetters_31 rfl ?_
        first | refine e_iaddN 33 dX4_takeLetters_32 rfl ?_ | refine e_iadd 33 dX4_takeLetters_32 rfl ?_
        refine e_puti 36 dX4_takeLetters_33 lf_X4_33 rfl rfl rfl rfl rfl (by decide) ?_
        refine e_goto 0 dX4_takeLetters_36 (by decide) ?_
        rw [show zRunF zLtr t.2 (k + 1) i = if zLtr (t.2 i) = true then zRunF zLtr t.2 k (i + 1) else i from rfl, if_pos h23] at hQ
        exact ih (i + 1) _ (by omega) (((zFq.r s).p (J := zJ4) rfl).x (zJ4_n (by decide)) hx) (zp_s _ _ _ _) (fun u g1 g2 => hQ u g1 (g2.t ((zFq.r s).p (J := zJ4) rfl)))
set_option maxHeartbeats 4000000 in
set_option maxRecDepth 100000 in
theorem k_X4_takeLetters (G : zG) {D E : Nat} {t : zTx} {ml : zFl} {mr : zFr} (hr : zRf mr D E) (htw : zTxW t) {mi : zFi} {a : Nat} (hx : zXt mi t) (h4 : mi 1 4 = nI a) (ha : a ≤ t.1) : zMet G 1 yX4_takeLetters cX4_takeLetters 1 none [.ref 1] 238 mi ml mr 238 (zPv fun u b c => u 1 2 = nI 4 ∧ u 1 4 = nI (zRun zLtr t a) ∧ zFq zJ245 u mi ∧ b = ml ∧ c = mr) := by
  refine z_intro ([.ref 1]) (by decide) rfl (Nat.le_of_ble_eq_true rfl) ?_
  refine l_X4_letters G _ _ hr htw (t.1 - a) a mi (by omega) hx h4 (fun u g1 g2 => ?_)
  refine e_aload_n 40 dX4_takeLetters_39 rfl rfl ?_
  refine e_iconst 41 hic_4 dX4_takeLetters_40 rfl ?_
  refine e_puti 44 dX4_takeLetters_41 lf_X4_39 rfl rfl rfl rfl rfl (by decide) ?_
  refine e_vreturn dX4_takeLetters_44 rfl ?_
  exact ⟨rfl, zp_s _ _ _ _, (zp_k _ _ (by decide)).trans g1, (g2.w (fun j h => Or.inr (Or.inl h))).p (J := zJ245) (Or.inl rfl), rfl, rfl⟩

def zJ45 (j : Nat) : Prop := j = 4 ∨ j = 5
theorem zJ45_n {j : Nat} (h : j < 4) : ¬ zJ45 j := by unfold zJ45; omega
theorem zJ245_n {j : Nat} (h : j = 1 ∨ j = 3 ∨ 5 < j) : ¬ zJ245 j := by unfold zJ245; omega
theorem zJ25_n {j : Nat} (h : j < 2 ∨ 5 < j) : ¬ zJ25 j := by unfold zJ25; omega
set_option maxHeartbeats 4000000 in
set_option maxRecDepth 100000 in
theorem l_X4_digits (G : zG) (d : Nat) (Q : zQ) {v1 : Value} {D E : Nat} {t : zTx} {ml : zFl} {mr : zFr} (hr : zRf mr D E) (htw : zTxW t) : ∀ (k i : Nat) (v : Int32) (s : zFi), i + k = t.1 → zXt s t → s 1 4 = nI i → s 1 5 = v → (∀ u, u 1 4 = nI (zRunF zDig t.2 k i) → u 1 5 = zValF t.2 k i v → zFq zJ45 u s → zE G (zRm (d + 1) 238 238) (zQm G 238 238 Q) yX4_takeNumber.cls yX4_takeNumber.name cX4_takeNumber 2 none 238 68 [.ref 1, v1] [] 238 u ml mr) → zE G (zRm (d + 1) 238 238) (zQm G 238 238 Q) yX4_takeNumber.cls yX4_takeNumber.name cX4_takeNumber 2 none 238 5 [.ref 1, v1] [] 238 s ml mr := by
  intro k
  induction k with
  | zero =>
    intro i v s h hx hs hv hQ
    have ht3 := htw.1
    refine e_aload_n 6 dX4_takeNumber_5 rfl rfl ?_
    refine e_geti 9 dX4_takeNumber_6 lf_X4_33 rfl rfl rfl (by decide) hs ?_
    refine e_aload_n 10 dX4_takeNumber_9 rfl rfl ?_
    refine e_geti 13 dX4_takeNumber_10 lf_X4_15 rfl rfl rfl (by decide) hx.1 ?_
    refine e_icmp_geN 68 16 dX4_takeNumber_13 (by decide) rfl (by omega) (by omega) (fun h13 => ?_) (fun h13 => ?_)
    · exact hQ s hs hv (zFq.r s)
    · exact absurd h13 (by omega)
  | succ k ih =>
    intro i v s h hx hs hv hQ
    have ht3 := htw.1
    refine e_aload_n 6 dX4_takeNumber_5 rfl rfl ?_
    refine e_geti 9 dX4_takeNumber_6 lf_X4_33 rfl rfl rfl (by decide) hs ?_
    refine e_aload_n 10 dX4_takeNumber_9 rfl rfl ?_
    refine e_geti 13 dX4_takeNumber_10 lf_X4_15 rfl rfl rfl (by decide) hx.1 ?_
    refine e_icmp_geN 68 16 dX4_takeNumber_13 (by decide) rfl (by omega) (by omega) (fun h13 => ?_) (fun h13 => ?_)
    · exact absurd h13 (by omega)
    · refine e_aload_n 17 dX4_takeNumber_16 rfl rfl ?_
      refine e_getr 20 dX4_takeNumber_17 lf_X4_9 rfl rfl rfl (by decide) hr.text ?_
      refine e_aload_n 21 dX4_takeNumber_20 rfl rfl ?_
      refine e_geti 24 dX4_takeNumber_21 lf_X4_33 rfl rfl rfl (by decide) hs ?_
      refine e_cald 25 dX4_takeNumber_24 rfl rfl (by decide) rfl (by show _ < 300; omega) (hx.2 i h13) ?_
      refine c_Sqi 28 dX4_takeNumber_25 (k_X4_isDigit G (htw.2 i h13)) lm_X4_120 zt_yX4_isDigit rfl rfl rfl (Nat.le_of_ble_eq_true rfl) (Nat.le_of_ble_eq_true rfl) (Nat.le_of_ble_eq_true rfl) (by exact Nat.le_refl _) (by exact Nat.le_refl _) ?_
      refine e_if_eq 68 31 dX4_takeNumber_28 (by decide) rfl (fun h28 => ?_) (fun h28 => ?_)
      · have h28 := zB_0 h28
        rw [show zRunF zDig t.2 (k + 1) i = if zDig (t.2 i) = true then zRunF zDig t.2 k (i + 1) else i from rfl, show zValF t.2 (k + 1) i v = if zDig (t.2 i) = true then zValF t.2 k (i + 1) (v * nI 10 + nI (t.2 i) - nI 48) else v from rfl, if_neg h28, if_neg h28] at hQ
        exact hQ s hs hv (zFq.r s)
      · have h28 := zB_1 h28
        refine e_aload_n 32 dX4_takeNumber_31 rfl rfl ?_
        refine e_aload_n 33 dX4_takeNumber_32 rfl rfl ?_
        refine e_geti 36 dX4_takeNumber_33 lf_X4_89 rfl rfl rfl (by decide) hv ?_
        refine e_bipush 38 hbi_10 dX4_takeNumber_36 rfl ?_
        refine e_imul 39 dX4_takeNumber_38 rfl ?_
        refine e_aload_n 40 dX4_takeNumber_39 rfl rfl ?_
        refine e_getr 43 dX4_takeNumber_40 lf_X4_9 rfl rfl rfl (by decide) hr.text ?_
        refine e_aload_n 44 dX4_takeNumber_43 rfl rfl ?_
        refine e_geti 47 dX4_takeNumber_44 lf_X4_33 rfl rfl rfl (by decide) hs ?_
        refine e_cald 48 dX4_takeNumber_47 rfl rfl (by decide) rfl (by show _ < 300; omega) (hx.2 i h13) ?_
        refine e_iadd 49 dX4_takeNumber_48 rfl ?_
        refine e_bipush 51 hbi_48 dX4_takeNumber_49 rfl ?_
        refine e_isub 52 dX4_takeNumber_51 rfl ?_
        refine e_puti 55 dX4_takeNumber_52 lf_X4_89 rfl rfl rfl rfl rfl (by decide) ?_
        refine e_aload_n 56 dX4_takeNumber_55 rfl rfl ?_
        refine e_dup 57 dX4_takeNumber_56 rfl rfl ?_
        refine e_geti (v := nI i) 60 dX4_takeNumber_57 lf_X4_33 rfl rfl rfl (by decide) ((zp_k _ _ (by decide)).trans hs) ?_
        refine e_iconst 61 hic_1 dX4_takeNumber_60 rfl ?_
        first | refine e_iaddN 62 dX4_takeNumber_61 rfl ?_ | refine e_iadd 62 dX4_takeNumber_61 rfl ?_
        refine e_puti 65 dX4_takeNumber_62 lf_X4_33 rfl rfl rfl rfl rfl (by decide) ?_
        refine e_goto 5 dX4_takeNumber_65 (by decide) ?_
        rw [show zRunF zDig t.2 (k + 1) i = if zDig (t.2 i) = true then zRunF zDig t.2 k (i + 1) else i from rfl, show zValF t.2 (k + 1) i v = if zDig (t.2 i) = true then zValF t.2 k (i + 1) (v * nI 10 + nI (t.2 i) - nI 48) else v from rfl, if_pos h28, if_pos h28] at hQ
        have hf : zFq zJ45 (zp (zp s 1 5 (v * nI 10 + nI (t.2 i) - nI 48)) 1 4 (nI (i + 1))) s := ((zFq.r s).p (J := zJ45) (Or.inr rfl)).p (Or.inl rfl)
        exact ih (i + 1) _ _ (by omega) (hf.x (zJ45_n (by decide)) hx) (zp_s _ _ _ _) ((zp_k _ _ (by decide)).trans (zp_s _ _ _ _)) (fun u g1 g2 g3 => hQ u g1 g2 (g3.t hf))
set_option maxHeartbeats 4000000 in
set_option maxRecDepth 100000 in
theorem k_X4_takeNumber (G : zG) {D E : Nat} {t : zTx} {ml : zFl} {mr : zFr} (hr : zRf mr D E) (htw : zTxW t) {mi : zFi} {a : Nat} (hx : zXt mi t) (h3 : mi 1 3 = nI a) (h4 : mi 1 4 = nI a) (ha : a < t.1) : zMet G 1 yX4_takeNumber cX4_takeNumber 2 none [.ref 1] 238 mi ml mr 238 (zPv fun u b c => u 1 2 = nI (zNumK t a (zRun zDig t a)) ∧ u 1 4 = nI (zRun zDig t a) ∧ u 1 5 = zVal t a ∧ zFq zJ245 u mi ∧ b = ml ∧ c = mr) := by
  refine z_intro ([.ref 1, zx]) (by decide) rfl (Nat.le_of_ble_eq_true rfl) ?_
  refine e_aload_n 1 dX4_takeNumber_0 rfl rfl ?_
  refine e_iconst 2 hic_0 dX4_takeNumber_1 rfl ?_
  refine e_puti 5 dX4_takeNumber_2 lf_X4_89 rfl rfl rfl rfl rfl (by decide) ?_
  have hf0 : zFq zJ45 (zp mi 1 5 (nI 0)) mi := (zFq.r mi).p (J := zJ45) (Or.inr rfl)
  have hx0 : zXt (zp mi 1 5 (nI 0)) t := hf0.x (zJ45_n (by decide)) hx
  have hge := zRun_ge zDig t a
  have hle := zRun_le zDig (Nat.le_of_lt ha)
  have ht3 := htw.1
  refine l_X4_digits G _ _ hr htw (t.1 - a) a (nI 0) _ (by omega) hx0 ((zp_k _ _ (by decide)).trans h4) (zp_s _ _ _ _) (fun u g1 g2 g3 => ?_)
  have g1 : u 1 4 = nI (zRun zDig t a) := g1
  refine e_aload_n 69 dX4_takeNumber_68 rfl rfl ?_
  refine e_geti 72 dX4_takeNumber_69 lf_X4_33 rfl rfl rfl (by decide) g1 ?_
  refine e_aload_n 73 dX4_takeNumber_72 rfl rfl ?_
  refine e_geti 76 dX4_takeNumber_73 lf_X4_46 rfl rfl rfl (by decide) (by first | exact (g3.2 3 (zJ45_n (by decide))).trans ((zp_k _ _ (by decide)).trans h3)) ?_
  first | refine e_isubN 77 dX4_takeNumber_76 rfl (by omega) ?_ | refine e_isub 77 dX4_takeNumber_76 rfl ?_
  refine e_istore_n 78 dX4_takeNumber_77 rfl (by decide) (zst1_1 rfl) ?_
  refine e_aload_n 79 dX4_takeNumber_78 rfl rfl ?_
  refine e_iload_n 80 dX4_takeNumber_79 rfl rfl ?_
  refine e_iconst 81 hic_1 dX4_takeNumber_80 rfl ?_
  refine e_icmp_eqN 103 84 dX4_takeNumber_81 (by decide) rfl (by omega) (by omega) (fun h81 => ?_) (fun h81 => ?_)
  · refine e_iconst 104 hic_3 dX4_takeNumber_103 rfl ?_
    refine e_goto 108 dX4_takeNumber_104 (by decide) ?_
    refine e_puti 111 dX4_takeNumber_108 lf_X4_39 rfl rfl rfl rfl rfl (by decide) ?_
    refine e_vreturn dX4_takeNumber_111 rfl ?_
    refine ⟨rfl, (zp_s _ _ _ _).trans ?_, (zp_k _ _ (by decide)).trans g1, (zp_k _ _ (by decide)).trans g2, ((g3.w (fun j h => Or.inr h)).p (J := zJ245) (Or.inl rfl)).t ((zFq.r mi).p (J := zJ245) (Or.inr (Or.inr rfl))), rfl, rfl⟩
    unfold zNumK
    first | rw [if_pos (by omega)] | rw [if_neg (by omega)]
  · refine e_iload_n 85 dX4_takeNumber_84 rfl rfl ?_
    refine e_iconst 86 hic_2 dX4_takeNumber_85 rfl ?_
    refine e_icmp_neN 107 89 dX4_takeNumber_86 (by decide) rfl (by omega) (by omega) (fun h86 => ?_) (fun h86 => ?_)
    · refine e_iconst 108 hic_1 dX4_takeNumber_107 rfl ?_
      refine e_puti 111 dX4_takeNumber_108 lf_X4_39 rfl rfl rfl rfl rfl (by decide) ?_
      refine e_vreturn dX4_takeNumber_111 rfl ?_
      refine ⟨rfl, (zp_s _ _ _ _).trans ?_, (zp_k _ _ (by decide)).trans g1, (zp_k _ _ (by decide)).trans g2, ((g3.w (fun j h => Or.inr h)).p (J := zJ245) (Or.inl rfl)).t ((zFq.r mi).p (J := zJ245) (Or.inr (Or.inr rfl))), rfl, rfl⟩
      unfold zNumK
      first | rw [if_pos (by omega)] | rw [if_neg (by omega)]
    · refine e_aload_n 90 dX4_takeNumber_89 rfl rfl ?_
      refine e_getr 93 dX4_takeNumber_90 lf_X4_9 rfl rfl rfl (by decide) hr.text ?_
      refine e_aload_n 94 dX4_takeNumber_93 rfl rfl ?_
      refine e_geti 97 dX4_takeNumber_94 lf_X4_46 rfl rfl rfl (by decide) (by first | exact (g3.2 3 (zJ45_n (by decide))).trans ((zp_k _ _ (by decide)).trans h3)) ?_
      refine e_cald (v := nI (t.2 a)) 98 dX4_takeNumber_97 rfl rfl (by decide) rfl (by show _ < 300; omega) ((g3.x (zJ45_n (by decide)) hx0).2 a ha) ?_
      refine e_bipush 100 hbi_48 dX4_takeNumber_98 rfl ?_
      refine e_icmp_eqN 107 103 dX4_takeNumber_100 (by decide) rfl (by have := htw.2 a ha; omega) (by omega) (fun h100 => ?_) (fun h100 => ?_)
      · refine e_iconst 108 hic_1 dX4_takeNumber_107 rfl ?_
        refine e_puti 111 dX4_takeNumber_108 lf_X4_39 rfl rfl rfl rfl rfl (by decide) ?_
        refine e_vreturn dX4_takeNumber_111 rfl ?_
        refine ⟨rfl, (zp_s _ _ _ _).trans ?_, (zp_k _ _ (by decide)).trans g1, (zp_k _ _ (by decide)).trans g2, ((g3.w (fun j h => Or.inr h)).p (J := zJ245) (Or.inl rfl)).t ((zFq.r mi).p (J := zJ245) (Or.inr (Or.inr rfl))), rfl, rfl⟩
        unfold zNumK
        first | rw [if_pos (by omega)] | rw [if_neg (by omega)]
      · refine e_iconst 104 hic_3 dX4_takeNumber_103 rfl ?_
        refine e_goto 108 dX4_takeNumber_104 (by decide) ?_
        refine e_puti 111 dX4_takeNumber_108 lf_X4_39 rfl rfl rfl rfl rfl (by decide) ?_
        refine e_vreturn dX4_takeNumber_111 rfl ?_
        refine ⟨rfl, (zp_s _ _ _ _).trans ?_, (zp_k _ _ (by decide)).trans g1, (zp_k _ _ (by decide)).trans g2, ((g3.w (fun j h => Or.inr h)).p (J := zJ245) (Or.inl rfl)).t ((zFq.r mi).p (J := zJ245) (Or.inr (Or.inr rfl))), rfl, rfl⟩
        unfold zNumK
        first | rw [if_pos (by omega)] | rw [if_neg (by omega)]


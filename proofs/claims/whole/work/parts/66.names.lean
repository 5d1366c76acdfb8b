/-- the byte at k, -1 behind the text -/
def zBy9 (t : zTx) (i : Nat) : Int32 := if i < t.1 then nI (t.2 i) else -1
theorem zBy9_y {t : zTx} {i : Nat} (h : i < t.1) : zBy9 t i = nI (t.2 i) := if_pos h
theorem zBy9_n {t : zTx} {i : Nat} (h : ¬ i < t.1) : zBy9 t i = -1 := if_neg h
theorem zBy9_e {t : zTx} (htw : zTxW t) {i c : Nat} (hc : c < 256) : zBy9 t i = nI c ↔ (i < t.1 ∧ t.2 i = c) := by
  unfold zBy9
  by_cases h : i < t.1
  · rw [if_pos h]
    constructor
    · intro q
      have h2 := congrArg Int32.toInt q
      rw [nI_toInt (by have := htw.2 i h; omega), nI_toInt (by omega)] at h2
      exact ⟨h, by omega⟩
    · intro q; rw [q.2]
  · rw [if_neg h]
    constructor
    · intro q
      have h2 := congrArg Int32.toInt q
      rw [nI_toInt (by omega)] at h2
      have e : (-1 : Int32).toInt = -1 := by decide
      rw [e] at h2
      omega
    · intro q; exact absurd q.1 h
theorem zBy9_r {t : zTx} (htw : zTxW t) {i lo hi : Nat} : vR (zBy9 t i) lo hi ↔ (i < t.1 ∧ lo ≤ t.2 i ∧ t.2 i ≤ hi) := by
  unfold zBy9
  by_cases h : i < t.1
  · rw [if_pos h, vR_nI (by have := htw.2 i h; omega)]
    exact ⟨fun q => ⟨h, q⟩, fun q => q.2⟩
  · rw [if_neg h]
    constructor
    · intro q
      have h1 := q.1
      have e : (-1 : Int32).toInt = -1 := by decide
      rw [e] at h1
      omega
    · intro q; exact absurd q.1 h
theorem zBy9_l {t : zTx} (htw : zTxW t) {i : Nat} : vR (zBy9 t i) 97 122 ↔ (i < t.1 ∧ zLtr (t.2 i) = true) := by rw [zBy9_r htw, zLtr_i]
theorem zBy9_d {t : zTx} (htw : zTxW t) {i : Nat} : vR (zBy9 t i) 48 57 ↔ (i < t.1 ∧ zDig (t.2 i) = true) := by rw [zBy9_r htw, zDig_i]
/-- letters as a number -/
def zA9 (v c : Nat) : Nat := if c = 0 then v else 256 * v + c
def zBs (f : Nat → Nat) : Nat → Nat → Nat → Nat
  | 0, _, v => v
  | n + 1, i, v => zBs f n (i + 1) (256 * v + f i)
theorem zBs_r (f : Nat → Nat) : ∀ (n i v : Nat), zBs f (n + 1) i v = 256 * zBs f n i v + f (i + n)
  | 0, i, v => rfl
  | n + 1, i, v => by
    show zBs f (n + 1) (i + 1) (256 * v + f i) = 256 * zBs f n (i + 1) (256 * v + f i) + f (i + (n + 1))
    rw [zBs_r f n (i + 1), show i + 1 + n = i + (n + 1) by omega]
theorem zBs_lt {f : Nat → Nat} {i : Nat} : ∀ (n : Nat), (∀ l, l < n → f (i + l) < 256) → zBs f n i 0 < 256 ^ n
  | 0, _ => Nat.one_pos
  | n + 1, h => by
    rw [zBs_r, Nat.pow_succ]
    have h1 := zBs_lt n (fun l hl => h l (by omega))
    have h2 := h n (by omega)
    omega
theorem zBs_inj {f g : Nat → Nat} {i j : Nat} : ∀ (n m : Nat), (∀ l, l < n → 0 < f (i + l) ∧ f (i + l) < 256) → (∀ l, l < m → 0 < g (j + l) ∧ g (j + l) < 256) → zBs f n i 0 = zBs g m j 0 → n = m ∧ ∀ l, l < n → f (i + l) = g (j + l)
  | 0, 0, _, _, _ => ⟨rfl, fun l hl => absurd hl (Nat.not_lt_zero _)⟩
  | 0, m + 1, _, hg, h => by
    rw [zBs_r] at h
    have h1 := hg m (by omega)
    have h2 : zBs f 0 i 0 = 0 := rfl
    omega
  | n + 1, 0, hf, _, h => by
    rw [zBs_r] at h
    have h1 := hf n (by omega)
    have h2 : zBs g 0 j 0 = 0 := rfl
    omega
  | n + 1, m + 1, hf, hg, h => by
    rw [zBs_r, zBs_r] at h
    have h1 := hf n (by omega)
    have h2 := hg m (by omega)
    have h3 := zBs_inj n m (fun l hl => hf l (by omega)) (fun l hl => hg l (by omega)) (by omega)
    obtain ⟨e, h4⟩ := h3
    subst e
    refine ⟨rfl, fun l hl => ?_⟩
    by_cases q : l = n
    · subst q; omega
    · exact h4 l (by omega)
theorem zBs_c {f g : Nat → Nat} {i j : Nat} : ∀ (n : Nat), (∀ l, l < n → f (i + l) = g (j + l)) → zBs f n i 0 = zBs g n j 0
  | 0, _ => rfl
  | n + 1, h => by
    rw [zBs_r, zBs_r, zBs_c n (fun l hl => h l (by omega)), h n (by omega)]
/-- the names as numbers -/
def zWn (k : Nat) : Nat := zBs (zNc k) (zNl k) 0 0
theorem zWn_d : ∀ k, k < 6 → ∀ j, j < 6 → zWn k = zWn j → k = j := by decide +kernel
theorem zWn_lt : ∀ k, k < 6 → zWn k < 2 ^ 63 := by decide +kernel
def zWo1 (x : Nat) : Int32 := if x = zWn 0 then nI 0 else if x = zWn 1 then nI 1 else if x = zWn 2 then nI 2 else -9
def zWo2 (x : Nat) : Int32 := if x = zWn 3 then nI 3 else if x = zWn 4 then nI 4 else if x = zWn 5 then nI 5 else -9
def zWo (x : Nat) : Int32 := if zWo1 x = -9 then zWo2 x else zWo1 x
theorem zWo_k : ∀ k, k < 6 → zWo (zWn k) = nI k := by decide +kernel
theorem zWo_n {x : Nat} (h : ∀ k, k < 6 → ¬ x = zWn k) : zWo x = -9 := by
  have e1 : zWo1 x = -9 := by unfold zWo1; rw [if_neg (h 0 (by decide)), if_neg (h 1 (by decide)), if_neg (h 2 (by decide))]
  unfold zWo
  rw [if_pos e1]
  unfold zWo2
  rw [if_neg (h 3 (by decide)), if_neg (h 4 (by decide)), if_neg (h 5 (by decide))]
theorem zAllF_i {P : Nat → Bool} : ∀ (n i : Nat), zAllF P n i = true ↔ ∀ l, l < n → P (i + l) = true
  | 0, i => ⟨fun _ l hl => absurd hl (Nat.not_lt_zero _), fun _ => rfl⟩
  | n + 1, i => by
    show (P i && zAllF P n (i + 1)) = true ↔ _
    rw [Bool.and_eq_true, zAllF_i n (i + 1)]
    constructor
    · intro h l hl
      by_cases e : l = 0
      · subst e; exact h.1
      · have := h.2 (l - 1) (by omega)
        rw [show i + 1 + (l - 1) = i + l by omega] at this
        exact this
    · intro h
      refine ⟨h 0 (by omega), fun l hl => ?_⟩
      have := h (l + 1) (by omega)
      rw [show i + (l + 1) = i + 1 + l by omega] at this
      exact this
theorem zSpB_i {t : zTx} {a e k : Nat} : zSpB t a e k = true ↔ e - a = zNl k ∧ ∀ j, j < zNl k → t.2 (a + j) = zNc k j := by
  unfold zSpB
  rw [Bool.and_eq_true, decide_eq_true_iff, zAllF_i]
  constructor
  · intro h
    refine ⟨h.1, fun j hj => ?_⟩
    have := of_decide_eq_true (h.2 j hj)
    rw [Nat.zero_add] at this
    exact this
  · intro h
    refine ⟨h.1, fun j hj => ?_⟩
    rw [Nat.zero_add]
    exact decide_eq_true (h.2 j hj)
theorem zNc_l : ∀ k, k < 6 → ∀ j, j < zNl k → 97 ≤ zNc k j ∧ zNc k j ≤ 122 := by decide +kernel
/-- a run of letters is the k-th name: as bytes, as numbers -/
theorem zSpB_w {t : zTx} {a e k : Nat} (hk : k < 6) (hl : ∀ j, a ≤ j → j < e → 97 ≤ t.2 j ∧ t.2 j ≤ 122) : zSpB t a e k = true ↔ zBs t.2 (min (e - a) 6) a 0 = zWn k := by
  have h6 := zNl_le k hk
  rw [zSpB_i]
  constructor
  · intro h
    have e5 : min (e - a) 6 = zNl k := by omega
    rw [e5]
    refine zBs_c _ (fun l hl => ?_)
    rw [Nat.zero_add]
    exact h.2 l hl
  · intro h
    have h2 := zBs_inj (f := t.2) (g := zNc k) (i := a) (j := 0) (min (e - a) 6) (zNl k) (fun l hl2 => by have := hl (a + l) (by omega) (by omega); omega) (fun l hl2 => by rw [Nat.zero_add]; have := zNc_l k hk l hl2; omega) h
    refine ⟨by omega, fun j hj => ?_⟩
    have := h2.2 j (by omega)
    rw [Nat.zero_add] at this
    exact this
set_option maxHeartbeats 4000000 in
set_option maxRecDepth 100000 in
theorem k_X8_byteAt (G : zG) {D E : Nat} {t : zTx} {mi : zFi} {ml : zFl} {mr : zFr} (hr : zRf mr D E) (htw : zTxW t) (ht : zYt mi t) {i : Nat} (hi : i ≤ 1000) : zMet G 0 yX8_byteAt cX8_byteAt 2 (some .int) [.ref 224, .int (nI i)] 238 mi ml mr 238 (zPq (some (.int (zBy9 t i))) mi ml mr) := by
  have ht3 := htw.1
  refine z_intro ([.ref 224, .int (nI i)]) (by decide) rfl (Nat.le_of_ble_eq_true rfl) ?_
  refine e_iload_n 1 dX8_byteAt_0 rfl rfl ?_
  refine e_aload_n 2 dX8_byteAt_1 rfl rfl ?_
  refine e_geti 5 dX8_byteAt_2 lf_X8_64 rfl rfl rfl (by decide) ht.1 ?_
  refine e_icmp_geN 17 8 dX8_byteAt_5 (by decide) rfl (by omega) (by omega) (fun h5 => ?_) (fun h5 => ?_)
  · refine e_iconst 18 hic_m1 dX8_byteAt_17 rfl ?_
    refine e_ireturn .int dX8_byteAt_18 rfl rfl ?_
    exact ⟨by unfold zBy9; first | rw [if_pos (by omega)] | rw [if_neg (by omega)], rfl, rfl, rfl⟩
  · refine e_aload_n 9 dX8_byteAt_8 rfl rfl ?_
    refine e_getr 12 dX8_byteAt_9 lf_X8_23 rfl rfl rfl (by decide) hr.yt ?_
    refine e_iload_n 13 dX8_byteAt_12 rfl rfl ?_
    refine e_iald 14 dX8_byteAt_13 rfl rfl (by decide) rfl (by show i < 300; omega) (ht.2 i h5) ?_
    refine e_goto 18 dX8_byteAt_14 (by decide) ?_
    refine e_ireturn .int dX8_byteAt_18 rfl rfl ?_
    exact ⟨by unfold zBy9; first | rw [if_pos (by omega)] | rw [if_neg (by omega)], rfl, rfl, rfl⟩

set_option maxHeartbeats 4000000 in
set_option maxRecDepth 100000 in
theorem k_X8_add (G : zG) {mi : zFi} {ml : zFl} {mr : zFr} {v c : Nat} (hc : c ≤ 1000) : zMet G 0 yX8_add cX8_add 3 (some .long) [.long (lN v), .int (nI c)] 238 mi ml mr 238 (zPq (some (.long (lN (zA9 v c)))) mi ml mr) := by
  refine z_intro ([.long (lN v), zx, .int (nI c)]) (by decide) rfl (Nat.le_of_ble_eq_true rfl) ?_
  refine e_iload_n 1 dX8_add_0 rfl rfl ?_
  refine e_if_neN 8 4 dX8_add_1 (by decide) rfl (by omega) (fun h1 => ?_) (fun h1 => ?_)
  · refine e_ldc2_w 11 lc_X8_69 dX8_add_8 rfl ?_
    refine e_lload_n 12 dX8_add_11 rfl rfl ?_
    refine e_lmul 13 dX8_add_12 rfl ?_
    rw [lN_mul]
    refine e_iload_n 14 dX8_add_13 rfl rfl ?_
    refine e_i2l 15 dX8_add_14 rfl ?_
    rw [i2l_nI9 (by omega)]
    refine e_ladd 16 dX8_add_15 rfl ?_
    rw [lN_add]
    refine e_lreturn dX8_add_16 rfl ?_
    exact ⟨by unfold zA9; first | rw [if_pos (by omega)] | rw [if_neg (by omega)], rfl, rfl, rfl⟩
  · refine e_lload_n 5 dX8_add_4 rfl rfl ?_
    refine e_goto 16 dX8_add_5 (by decide) ?_
    refine e_lreturn dX8_add_16 rfl ?_
    exact ⟨by unfold zA9; first | rw [if_pos (by omega)] | rw [if_neg (by omega)], rfl, rfl, rfl⟩

set_option maxHeartbeats 4000000 in
set_option maxRecDepth 100000 in
theorem k_X8_named (G : zG) {mi : zFi} {ml : zFl} {mr : zFr} {a b c d e : Nat} (ha : a ≤ 1000) (hb : b ≤ 1000) (hc : c ≤ 1000) (hd : d ≤ 1000) (he : e ≤ 1000) : zMet G 1 yX8_named cX8_named 5 (some .long) [.int (nI a), .int (nI b), .int (nI c), .int (nI d), .int (nI e)] 238 mi ml mr 238 (zPq (some (.long (lN (zA9 (zA9 (zA9 (zA9 (zA9 0 a) b) c) d) e)))) mi ml mr) := by
  refine z_intro ([.int (nI a), .int (nI b), .int (nI c), .int (nI d), .int (nI e)]) (by decide) rfl (Nat.le_of_ble_eq_true rfl) ?_
  refine e_lconst 1 (v := lN 0) rfl dX8_named_0 rfl ?_
  refine e_iload_n 2 dX8_named_1 rfl rfl ?_
  refine c_Sql 5 dX8_named_2 (k_X8_add G (by omega)) lm_X8_71 zt_yX8_add rfl rfl rfl (Nat.le_of_ble_eq_true rfl) (Nat.le_of_ble_eq_true rfl) (Nat.le_of_ble_eq_true rfl) (by exact Nat.le_refl _) (by exact Nat.le_refl _) ?_
  refine e_iload_n 6 dX8_named_5 rfl rfl ?_
  refine c_Sql 9 dX8_named_6 (k_X8_add G (by omega)) lm_X8_71 zt_yX8_add rfl rfl rfl (Nat.le_of_ble_eq_true rfl) (Nat.le_of_ble_eq_true rfl) (Nat.le_of_ble_eq_true rfl) (by exact Nat.le_refl _) (by exact Nat.le_refl _) ?_
  refine e_iload_n 10 dX8_named_9 rfl rfl ?_
  refine c_Sql 13 dX8_named_10 (k_X8_add G (by omega)) lm_X8_71 zt_yX8_add rfl rfl rfl (Nat.le_of_ble_eq_true rfl) (Nat.le_of_ble_eq_true rfl) (Nat.le_of_ble_eq_true rfl) (by exact Nat.le_refl _) (by exact Nat.le_refl _) ?_
  refine e_iload_n 14 dX8_named_13 rfl rfl ?_
  refine c_Sql 17 dX8_named_14 (k_X8_add G (by omega)) lm_X8_71 zt_yX8_add rfl rfl rfl (Nat.le_of_ble_eq_true rfl) (Nat.le_of_ble_eq_true rfl) (Nat.le_of_ble_eq_true rfl) (by exact Nat.le_refl _) (by exact Nat.le_refl _) ?_
  refine e_iload 19 dX8_named_17 rfl rfl ?_
  refine c_Sql 22 dX8_named_19 (k_X8_add G (by omega)) lm_X8_71 zt_yX8_add rfl rfl rfl (Nat.le_of_ble_eq_true rfl) (Nat.le_of_ble_eq_true rfl) (Nat.le_of_ble_eq_true rfl) (by exact Nat.le_refl _) (by exact Nat.le_refl _) ?_
  refine e_lreturn dX8_named_22 rfl ?_
  exact ⟨rfl, rfl, rfl, rfl⟩

set_option maxHeartbeats 4000000 in
set_option maxRecDepth 100000 in
theorem l_X8_wordOf (G : zG) (d : Nat) (Q : zQ) {x : Nat} (hx : x < 2 ^ 63) {v : Int32} {v2 : Value} {mi : zFi} {ml : zFl} {mr : zFr} (hQ : Q (some (.int (if v = -9 then zWo2 x else v))) mi ml mr) : zE G (zRm (d + 2) 238 238) (zQm G 238 238 Q) yX8_wordOf.cls yX8_wordOf.name cX8_wordOf 3 (some .int) 238 65 [.long (lN x), zx, v2] [.int v] 238 mi ml mr := by
  refine e_istore_n 66 dX8_wordOf_65 rfl (by decide) (zst1_2 rfl) ?_
  refine e_iload_n 67 dX8_wordOf_66 rfl rfl ?_
  refine e_bipush 69 hbi_m9 dX8_wordOf_67 rfl ?_
  refine e_icmp_eq 76 72 dX8_wordOf_69 (by decide) rfl (fun h69 => ?_) (fun h69 => ?_)
  · refine e_lload_n 77 dX8_wordOf_76 rfl rfl ?_
    refine e_bipush 79 hbi_115 dX8_wordOf_77 rfl ?_
    refine e_bipush 81 hbi_116 dX8_wordOf_79 rfl ?_
    refine e_bipush 83 hbi_97 dX8_wordOf_81 rfl ?_
    refine e_bipush 85 hbi_114 dX8_wordOf_83 rfl ?_
    refine e_bipush 87 hbi_116 dX8_wordOf_85 rfl ?_
    refine c_Sql 90 dX8_wordOf_87 (k_X8_named G (by decide) (by decide) (by decide) (by decide) (by decide)) lm_X8_75 zt_yX8_named rfl rfl rfl (Nat.le_of_ble_eq_true rfl) (Nat.le_of_ble_eq_true rfl) (Nat.le_of_ble_eq_true rfl) (by exact Nat.le_refl _) (by exact Nat.le_refl _) ?_
    rw [show zA9 (zA9 (zA9 (zA9 (zA9 0 115) 116) 97) 114) 116 = zWn 3 from by decide +kernel]
    refine e_lcmp 91 dX8_wordOf_90 rfl ?_
    refine e_if_ne 98 94 dX8_wordOf_91 (by decide) rfl (fun h91 => ?_) (fun h91 => ?_)
    · have h91 : ¬ x = zWn 3 := fun z => h91 ((lg_cmp_eq _ _).mpr (congrArg lN z))
      refine e_lload_n 99 dX8_wordOf_98 rfl rfl ?_
      refine e_bipush 101 hbi_119 dX8_wordOf_99 rfl ?_
      refine e_bipush 103 hbi_111 dX8_wordOf_101 rfl ?_
      refine e_bipush 105 hbi_114 dX8_wordOf_103 rfl ?_
      refine e_bipush 107 hbi_100 dX8_wordOf_105 rfl ?_
      refine e_iconst 108 hic_0 dX8_wordOf_107 rfl ?_
      refine c_Sql 111 dX8_wordOf_108 (k_X8_named G (by decide) (by decide) (by decide) (by decide) (by decide)) lm_X8_75 zt_yX8_named rfl rfl rfl (Nat.le_of_ble_eq_true rfl) (Nat.le_of_ble_eq_true rfl) (Nat.le_of_ble_eq_true rfl) (by exact Nat.le_refl _) (by exact Nat.le_refl _) ?_
      rw [show zA9 (zA9 (zA9 (zA9 (zA9 0 119) 111) 114) 100) 0 = zWn 4 from by decide +kernel]
      refine e_lcmp 112 dX8_wordOf_111 rfl ?_
      refine e_if_ne 119 115 dX8_wordOf_112 (by decide) rfl (fun h112 => ?_) (fun h112 => ?_)
      · have h112 : ¬ x = zWn 4 := fun z => h112 ((lg_cmp_eq _ _).mpr (congrArg lN z))
        refine e_lload_n 120 dX8_wordOf_119 rfl rfl ?_
        refine e_bipush 122 hbi_112 dX8_wordOf_120 rfl ?_
        refine e_bipush 124 hbi_108 dX8_wordOf_122 rfl ?_
        refine e_bipush 126 hbi_97 dX8_wordOf_124 rfl ?_
        refine e_bipush 128 hbi_105 dX8_wordOf_126 rfl ?_
        refine e_bipush 130 hbi_110 dX8_wordOf_128 rfl ?_
        refine c_Sql 133 dX8_wordOf_130 (k_X8_named G (by decide) (by decide) (by decide) (by decide) (by decide)) lm_X8_75 zt_yX8_named rfl rfl rfl (Nat.le_of_ble_eq_true rfl) (Nat.le_of_ble_eq_true rfl) (Nat.le_of_ble_eq_true rfl) (by exact Nat.le_refl _) (by exact Nat.le_refl _) ?_
        rw [show zA9 (zA9 (zA9 (zA9 (zA9 0 112) 108) 97) 105) 110 = zWn 5 from by decide +kernel]
        refine e_lcmp 134 dX8_wordOf_133 rfl ?_
        refine e_if_ne 141 137 dX8_wordOf_134 (by decide) rfl (fun h134 => ?_) (fun h134 => ?_)
        · have h134 : ¬ x = zWn 5 := fun z => h134 ((lg_cmp_eq _ _).mpr (congrArg lN z))
          refine e_bipush 143 hbi_m9 dX8_wordOf_141 rfl ?_
          refine e_ireturn .int dX8_wordOf_143 rfl rfl ?_
          first | (rw [if_neg h69] at hQ; exact hQ) | (rw [if_pos h69] at hQ; unfold zWo2 at hQ; first | (rw [if_pos h91] at hQ; exact hQ) | (rw [if_neg h91, if_pos h112] at hQ; exact hQ) | (rw [if_neg h91, if_neg h112, if_pos h134] at hQ; exact hQ) | (rw [if_neg h91, if_neg h112, if_neg h134] at hQ; exact hQ))
        · have h134 : x = zWn 5 := (lN_lt63 hx (zWn_lt 5 (by decide))).2.mp ((lg_cmp_eq _ _).mp h134)
          refine e_iconst 138 hic_5 dX8_wordOf_137 rfl ?_
          refine e_goto 143 dX8_wordOf_138 (by decide) ?_
          refine e_ireturn .int dX8_wordOf_143 rfl rfl ?_
          first | (rw [if_neg h69] at hQ; exact hQ) | (rw [if_pos h69] at hQ; unfold zWo2 at hQ; first | (rw [if_pos h91] at hQ; exact hQ) | (rw [if_neg h91, if_pos h112] at hQ; exact hQ) | (rw [if_neg h91, if_neg h112, if_pos h134] at hQ; exact hQ) | (rw [if_neg h91, if_neg h112, if_neg h134] at hQ; exact hQ))
      · have h112 : x = zWn 4 := (lN_lt63 hx (zWn_lt 4 (by decide))).2.mp ((lg_cmp_eq _ _).mp h112)
        refine e_iconst 116 hic_4 dX8_wordOf_115 rfl ?_
        refine e_goto 143 dX8_wordOf_116 (by decide) ?_
        refine e_ireturn .int dX8_wordOf_143 rfl rfl ?_
        first | (rw [if_neg h69] at hQ; exact hQ) | (rw [if_pos h69] at hQ; unfold zWo2 at hQ; first | (rw [if_pos h91] at hQ; exact hQ) | (rw [if_neg h91, if_pos h112] at hQ; exact hQ) | (rw [if_neg h91, if_neg h112, if_pos h134] at hQ; exact hQ) | (rw [if_neg h91, if_neg h112, if_neg h134] at hQ; exact hQ))
    · have h91 : x = zWn 3 := (lN_lt63 hx (zWn_lt 3 (by decide))).2.mp ((lg_cmp_eq _ _).mp h91)
      refine e_iconst 95 hic_3 dX8_wordOf_94 rfl ?_
      refine e_goto 143 dX8_wordOf_95 (by decide) ?_
      refine e_ireturn .int dX8_wordOf_143 rfl rfl ?_
      first | (rw [if_neg h69] at hQ; exact hQ) | (rw [if_pos h69] at hQ; unfold zWo2 at hQ; first | (rw [if_pos h91] at hQ; exact hQ) | (rw [if_neg h91, if_pos h112] at hQ; exact hQ) | (rw [if_neg h91, if_neg h112, if_pos h134] at hQ; exact hQ) | (rw [if_neg h91, if_neg h112, if_neg h134] at hQ; exact hQ))
  · refine e_iload_n 73 dX8_wordOf_72 rfl rfl ?_
    refine e_goto 143 dX8_wordOf_73 (by decide) ?_
    refine e_ireturn .int dX8_wordOf_143 rfl rfl ?_
    first | (rw [if_neg h69] at hQ; exact hQ) | (rw [if_pos h69] at hQ; unfold zWo2 at hQ; first | (rw [if_pos h91] at hQ; exact hQ) | (rw [if_neg h91, if_pos h112] at hQ; exact hQ) | (rw [if_neg h91, if_neg h112, if_pos h134] at hQ; exact hQ) | (rw [if_neg h91, if_neg h112, if_neg h134] at hQ; exact hQ))
set_option maxHeartbeats 4000000 in
set_option maxRecDepth 100000 in
theorem k_X8_wordOf (G : zG) {mi : zFi} {ml : zFl} {mr : zFr} {x : Nat} (hx : x < 2 ^ 63) : zMet G 2 yX8_wordOf cX8_wordOf 3 (some .int) [.long (lN x)] 238 mi ml mr 238 (zPq (some (.int (zWo x))) mi ml mr) := by
  refine z_intro ([.long (lN x), zx, zx]) (by decide) rfl (Nat.le_of_ble_eq_true rfl) ?_
  refine e_lload_n 1 dX8_wordOf_0 rfl rfl ?_
  refine e_bipush 3 hbi_112 dX8_wordOf_1 rfl ?_
  refine e_bipush 5 hbi_108 dX8_wordOf_3 rfl ?_
  refine e_bipush 7 hbi_97 dX8_wordOf_5 rfl ?_
  refine e_bipush 9 hbi_99 dX8_wordOf_7 rfl ?_
  refine e_bipush 11 hbi_101 dX8_wordOf_9 rfl ?_
  refine c_Sql 14 dX8_wordOf_11 (k_X8_named G (by decide) (by decide) (by decide) (by decide) (by decide)) lm_X8_75 zt_yX8_named rfl rfl rfl (Nat.le_of_ble_eq_true rfl) (Nat.le_of_ble_eq_true rfl) (Nat.le_of_ble_eq_true rfl) (by exact Nat.le_refl _) (by exact Nat.le_refl _) ?_
  rw [show zA9 (zA9 (zA9 (zA9 (zA9 0 112) 108) 97) 99) 101 = zWn 0 from by decide +kernel]
  refine e_lcmp 15 dX8_wordOf_14 rfl ?_
  refine e_if_ne 22 18 dX8_wordOf_15 (by decide) rfl (fun h15 => ?_) (fun h15 => ?_)
  · have h15 : ¬ x = zWn 0 := fun z => h15 ((lg_cmp_eq _ _).mpr (congrArg lN z))
    refine e_lload_n 23 dX8_wordOf_22 rfl rfl ?_
    refine e_bipush 25 hbi_110 dX8_wordOf_23 rfl ?_
    refine e_bipush 27 hbi_101 dX8_wordOf_25 rfl ?_
    refine e_bipush 29 hbi_97 dX8_wordOf_27 rfl ?_
    refine e_bipush 31 hbi_114 dX8_wordOf_29 rfl ?_
    refine e_iconst 32 hic_0 dX8_wordOf_31 rfl ?_
    refine c_Sql 35 dX8_wordOf_32 (k_X8_named G (by decide) (by decide) (by decide) (by decide) (by decide)) lm_X8_75 zt_yX8_named rfl rfl rfl (Nat.le_of_ble_eq_true rfl) (Nat.le_of_ble_eq_true rfl) (Nat.le_of_ble_eq_true rfl) (by exact Nat.le_refl _) (by exact Nat.le_refl _) ?_
    rw [show zA9 (zA9 (zA9 (zA9 (zA9 0 110) 101) 97) 114) 0 = zWn 1 from by decide +kernel]
    refine e_lcmp 36 dX8_wordOf_35 rfl ?_
    refine e_if_ne 43 39 dX8_wordOf_36 (by decide) rfl (fun h36 => ?_) (fun h36 => ?_)
    · have h36 : ¬ x = zWn 1 := fun z => h36 ((lg_cmp_eq _ _).mpr (congrArg lN z))
      refine e_lload_n 44 dX8_wordOf_43 rfl rfl ?_
      refine e_bipush 46 hbi_108 dX8_wordOf_44 rfl ?_
      refine e_bipush 48 hbi_97 dX8_wordOf_46 rfl ?_
      refine e_bipush 50 hbi_119 dX8_wordOf_48 rfl ?_
      refine e_iconst 51 hic_0 dX8_wordOf_50 rfl ?_
      refine e_iconst 52 hic_0 dX8_wordOf_51 rfl ?_
      refine c_Sql 55 dX8_wordOf_52 (k_X8_named G (by decide) (by decide) (by decide) (by decide) (by decide)) lm_X8_75 zt_yX8_named rfl rfl rfl (Nat.le_of_ble_eq_true rfl) (Nat.le_of_ble_eq_true rfl) (Nat.le_of_ble_eq_true rfl) (by exact Nat.le_refl _) (by exact Nat.le_refl _) ?_
      rw [show zA9 (zA9 (zA9 (zA9 (zA9 0 108) 97) 119) 0) 0 = zWn 2 from by decide +kernel]
      refine e_lcmp 56 dX8_wordOf_55 rfl ?_
      refine e_if_ne 63 59 dX8_wordOf_56 (by decide) rfl (fun h56 => ?_) (fun h56 => ?_)
      · have h56 : ¬ x = zWn 2 := fun z => h56 ((lg_cmp_eq _ _).mpr (congrArg lN z))
        refine e_bipush 65 hbi_m9 dX8_wordOf_63 rfl ?_
        refine l_X8_wordOf G 0 _ hx ⟨?_, rfl, rfl, rfl⟩
        refine congrArg (fun z => some (Value.int z)) ?_
        unfold zWo
        have e9 : ∀ y, zWo1 x = y → (if y = -9 then zWo2 x else y) = if zWo1 x = -9 then zWo2 x else zWo1 x := fun y hy => by rw [hy]
        refine e9 _ ?_
        unfold zWo1
        first | rw [if_pos h15] | rw [if_neg h15, if_pos h36] | rw [if_neg h15, if_neg h36, if_pos h56] | rw [if_neg h15, if_neg h36, if_neg h56]
      · have h56 : x = zWn 2 := (lN_lt63 hx (zWn_lt 2 (by decide))).2.mp ((lg_cmp_eq _ _).mp h56)
        refine e_iconst 60 hic_2 dX8_wordOf_59 rfl ?_
        refine e_goto 65 dX8_wordOf_60 (by decide) ?_
        refine l_X8_wordOf G 0 _ hx ⟨?_, rfl, rfl, rfl⟩
        refine congrArg (fun z => some (Value.int z)) ?_
        unfold zWo
        have e9 : ∀ y, zWo1 x = y → (if y = -9 then zWo2 x else y) = if zWo1 x = -9 then zWo2 x else zWo1 x := fun y hy => by rw [hy]
        refine e9 _ ?_
        unfold zWo1
        first | rw [if_pos h15] | rw [if_neg h15, if_pos h36] | rw [if_neg h15, if_neg h36, if_pos h56] | rw [if_neg h15, if_neg h36, if_neg h56]
    · have h36 : x = zWn 1 := (lN_lt63 hx (zWn_lt 1 (by decide))).2.mp ((lg_cmp_eq _ _).mp h36)
      refine e_iconst 40 hic_1 dX8_wordOf_39 rfl ?_
      refine e_goto 65 dX8_wordOf_40 (by decide) ?_
      refine l_X8_wordOf G 0 _ hx ⟨?_, rfl, rfl, rfl⟩
      refine congrArg (fun z => some (Value.int z)) ?_
      unfold zWo
      have e9 : ∀ y, zWo1 x = y → (if y = -9 then zWo2 x else y) = if zWo1 x = -9 then zWo2 x else zWo1 x := fun y hy => by rw [hy]
      refine e9 _ ?_
      unfold zWo1
      first | rw [if_pos h15] | rw [if_neg h15, if_pos h36] | rw [if_neg h15, if_neg h36, if_pos h56] | rw [if_neg h15, if_neg h36, if_neg h56]
  · have h15 : x = zWn 0 := (lN_lt63 hx (zWn_lt 0 (by decide))).2.mp ((lg_cmp_eq _ _).mp h15)
    refine e_iconst 19 hic_0 dX8_wordOf_18 rfl ?_
    refine e_goto 65 dX8_wordOf_19 (by decide) ?_
    refine l_X8_wordOf G 0 _ hx ⟨?_, rfl, rfl, rfl⟩
    refine congrArg (fun z => some (Value.int z)) ?_
    unfold zWo
    have e9 : ∀ y, zWo1 x = y → (if y = -9 then zWo2 x else y) = if zWo1 x = -9 then zWo2 x else zWo1 x := fun y hy => by rw [hy]
    refine e9 _ ?_
    unfold zWo1
    first | rw [if_pos h15] | rw [if_neg h15, if_pos h36] | rw [if_neg h15, if_neg h36, if_pos h56] | rw [if_neg h15, if_neg h36, if_neg h56]


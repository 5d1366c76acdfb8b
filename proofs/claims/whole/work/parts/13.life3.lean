theorem lN_div {a b : Nat} (ha : a < 2 ^ 63) (hb : b < 2 ^ 63) : lN a / lN b = lN (a / b) := by
  have key : ∀ n : Nat, n < 2 ^ 63 → (lN n).toInt = (n : Int) := fun n h => by
    unfold lN
    rw [Int64.toInt_ofNat']
    have e9 : (Int64.size : Int) = 18446744073709551616 := rfl
    apply Int.bmod_eq_of_le <;> omega
  apply Int64.toInt_inj.mp
  have h1 : a / b < 2 ^ 63 := Nat.lt_of_le_of_lt (Nat.div_le_self a b) ha
  rw [Int64.toInt_div, key a ha, key b hb, key _ h1]
  have h2 : ((a : Int).tdiv (b : Int)) = ((a / b : Nat) : Int) := by
    rw [Int.tdiv_eq_ediv_of_nonneg (by omega)]; rfl
  rw [h2]
  clear h2
  generalize a / b = x at h1 ⊢
  apply Int.bmod_eq_of_le <;> omega
theorem zRow_step {mi : zFi} {r age : Nat} {g F : Nat → Nat} (h : zRow mi r g) : zRow (zp mi r age (nI (F (g age)))) r (fun a => if a = age then F (g a) else g a) := by
  intro a h1 h2
  dsimp only
  by_cases e : a = age
  · subst e
    rw [zp_s, if_pos rfl]
  · rw [zp_k _ _ e, if_neg e]
    exact h a h1 h2
theorem zRow_done {mi' : zFi} {r age hi : Nat} {g F : Nat → Nat} (hle : age ≤ hi) (h : zRow mi' r (fun a => if age + 1 ≤ a ∧ a ≤ hi then F ((fun a => if a = age then F (g a) else g a) a) else (fun a => if a = age then F (g a) else g a) a)) : zRow mi' r (fun a => if age ≤ a ∧ a ≤ hi then F (g a) else g a) := by
  intro a h1 h2
  rw [h a h1 h2]
  dsimp only
  by_cases e : a = age
  · subst e
    rw [if_neg (by omega), if_pos rfl, if_pos ⟨Nat.le_refl a, hle⟩]
  · by_cases q : age ≤ a ∧ a ≤ hi
    · rw [if_pos (by omega), if_neg e, if_pos q]
    · rw [if_neg (by omega), if_neg e, if_neg q]
theorem zRow_none {mi : zFi} {r age hi : Nat} {g F : Nat → Nat} (hlt : hi < age) (h : zRow mi r g) : zRow mi r (fun a => if age ≤ a ∧ a ≤ hi then F (g a) else g a) := by
  intro a h1 h2
  dsimp only
  rw [if_neg (by omega)]
  exact h a h1 h2
theorem zOnly.trans {r : Nat} {m1 m2 m3 : zFi} (h1 : zOnly r m1 m2) (h2 : zOnly r m2 m3) : zOnly r m1 m3 := fun q hq => (h2 q hq).trans (h1 q hq)
theorem zOnly.p {r k : Nat} {mi : zFi} {v : Int32} : zOnly r mi (zp mi r k v) := fun _ hq => zp_r _ _ _ hq
/-! the row's functions -/
def zGrow (f : Nat → Nat) : Nat → Nat := fun a => if a = 10 then 0 else f (a - 1)
def zTakeF (s par x : Nat) : Nat := x + s * (1000 - x) * (1000 - par) / 10000000
def zDropF (s x : Nat) : Nat := x - s * x / 10000
def zLrnF (s x : Nat) : Nat := x + s * (1000 - x) / 10000
def zMaxF (v x : Nat) : Nat := max x v
def zTake (s par : Nat) (f : Nat → Nat) : Nat → Nat := fun a => if 13 ≤ a ∧ a ≤ 19 then zTakeF s par (f a) else f a
def zDrop (s : Nat) (f : Nat → Nat) : Nat → Nat := fun a => if 10 ≤ a ∧ a ≤ 19 then zDropF s (f a) else f a
def zLrn (s : Nat) (f : Nat → Nat) : Nat → Nat := fun a => if 35 ≤ a ∧ a ≤ 50 then zLrnF s (f a) else f a
def zRaise1 (a1 a2 v : Nat) (f : Nat → Nat) : Nat → Nat := fun a => if a1 ≤ a ∧ a ≤ a2 then zMaxF v (f a) else f a
def zLe (f : Nat → Nat) : Prop := ∀ a, 10 ≤ a → a ≤ 69 → f a ≤ 1000
theorem zTakeF_le {s par x : Nat} (hs : s ≤ 9000) (hp : par ≤ 1000) (hx : x ≤ 1000) : zTakeF s par x ≤ 1000 := by
  unfold zTakeF
  have h1 : s * (1000 - x) ≤ 9000 * (1000 - x) := Nat.mul_le_mul_right _ hs
  have h2 : s * (1000 - x) * (1000 - par) ≤ 9000 * (1000 - x) * 1000 := Nat.mul_le_mul h1 (by omega)
  have h3 : s * (1000 - x) * (1000 - par) / 10000000 ≤ 1000 - x := by
    apply Nat.div_le_of_le_mul
    omega
  omega
theorem zDropF_le {s x : Nat} (hx : x ≤ 1000) : zDropF s x ≤ 1000 := by
  unfold zDropF
  omega
theorem zLrnF_le {s x : Nat} (hs : s ≤ 9000) (hx : x ≤ 1000) : zLrnF s x ≤ 1000 := by
  unfold zLrnF
  have h1 : s * (1000 - x) ≤ 9000 * (1000 - x) := Nat.mul_le_mul_right _ hs
  have h3 : s * (1000 - x) / 10000 ≤ 1000 - x := by
    apply Nat.div_le_of_le_mul
    omega
  omega
theorem zGrow_le {f : Nat → Nat} (h : zLe f) : zLe (zGrow f) := fun a h1 h2 => by
  unfold zGrow
  by_cases e : a = 10
  · rw [if_pos e]; omega
  · rw [if_neg e]; exact h (a - 1) (by omega) (by omega)
theorem zTake_le {s par : Nat} {f : Nat → Nat} (hs : s ≤ 9000) (hp : par ≤ 1000) (h : zLe f) : zLe (zTake s par f) := fun a h1 h2 => by
  unfold zTake
  split
  · exact zTakeF_le hs hp (h a h1 h2)
  · exact h a h1 h2
theorem zDrop_le {s : Nat} {f : Nat → Nat} (h : zLe f) : zLe (zDrop s f) := fun a h1 h2 => by
  unfold zDrop
  split
  · exact zDropF_le (h a h1 h2)
  · exact h a h1 h2
theorem zLrn_le {s : Nat} {f : Nat → Nat} (hs : s ≤ 9000) (h : zLe f) : zLe (zLrn s f) := fun a h1 h2 => by
  unfold zLrn
  split
  · exact zLrnF_le hs (h a h1 h2)
  · exact h a h1 h2
theorem zRaise1_le {a1 a2 v : Nat} {f : Nat → Nat} (hv : v ≤ 1000) (h : zLe f) : zLe (zRaise1 a1 a2 v f) := fun a h1 h2 => by
  unfold zRaise1
  split
  · have := h a h1 h2; unfold zMaxF; omega
  · exact h a h1 h2
/-- the means of a place: the young, the parents, all -/
def zYoung (f : Nat → Nat) : Nat := zsum f 13 7 / 7
def zPar (f : Nat → Nat) : Nat := zsum f 35 16 / 16
def zAll (f : Nat → Nat) : Nat := zsum f 10 60 / 60
theorem zYoung_le {f : Nat → Nat} (h : zLe f) : zYoung f ≤ 1000 := by
  have := zsum_le (f := f) (M := 1000) 7 13 (fun i h1 h2 => h i (by omega) (by omega))
  unfold zYoung
  omega
theorem zPar_le {f : Nat → Nat} (h : zLe f) : zPar f ≤ 1000 := by
  have := zsum_le (f := f) (M := 1000) 16 35 (fun i h1 h2 => h i (by omega) (by omega))
  unfold zPar
  omega
theorem zAll_le {f : Nat → Nat} (h : zLe f) : zAll f ≤ 1000 := by
  have := zsum_le (f := f) (M := 1000) 60 10 (fun i h1 h2 => h i (by omega) (by omega))
  unfold zAll
  omega
def zMeas (who : Nat) (f : Nat → Nat) : Nat := if who = 0 then zYoung f else if who = 1 then zPar f else zAll f
theorem zMeas_le {who : Nat} {f : Nat → Nat} (h : zLe f) : zMeas who f ≤ 1000 := by
  unfold zMeas
  split
  · exact zYoung_le h
  · split
    · exact zPar_le h
    · exact zAll_le h
set_option maxHeartbeats 4000000 in
set_option maxRecDepth 100000 in
theorem k_X2_measure_0 (G : zG) {L p : Nat} {f : Nat → Nat} {mi : zFi} {ml : zFl} {mr : zFr} (hL : zLife mr L) (hp : p < 3) (hf : zRow mi (L + 2 + p) f) (hle : zLe f) : zMet G 1 yX2_measure cX2_measure 3 (some .int) [.ref L, .int (nI p), .int (nI 0)] 238 mi ml mr 238 (zPq (some (.int (nI (zMeas 0 f)))) mi ml mr) := by
  refine z_intro ([.ref L, .int (nI p), .int (nI 0)]) (by decide) rfl (Nat.le_of_ble_eq_true rfl) ?_
  refine e_iload_n 1 dX2_measure_0 rfl rfl ?_
  refine e_lookup 28 (off := 27) dX2_measure_1 (by decide) (by decide) (by decide) ?_
  refine e_aload_n 29 dX2_measure_28 rfl rfl ?_
  refine e_iload_n 30 dX2_measure_29 rfl rfl ?_
  refine e_bipush 32 hbi_13 dX2_measure_30 rfl ?_
  refine e_bipush 34 hbi_19 dX2_measure_32 rfl ?_
  refine c_Vqi 37 (ci := 2) dX2_measure_34 (show zMet G 0 yX2_total cX2_total 6 (some .int) [.ref L, .int (nI p), .int (nI 13), .int (nI 19)] 238 mi ml mr 238 (zPq (some (.int (nI (zsum f 13 7)))) mi ml mr) from k_X2_total G hL hp (by decide) (by decide) (fun j h1 h2 => hf j (by omega) (by omega))) lm_X2_32 zi_yX2_total zs_yX2_total rfl hL.k0 hL.l0 rfl rfl rfl (Nat.le_of_ble_eq_true rfl) (Nat.le_of_ble_eq_true rfl) (Nat.le_of_ble_eq_true rfl) (Nat.le_refl _) (Nat.le_refl _) ?_
  refine e_bipush 39 hbi_7 dX2_measure_37 rfl ?_
  refine e_idivN 40 dX2_measure_39 rfl (by have := zsum_le (f := f) (M := 1000) 7 13 (fun i h1 h2 => hle i (by omega) (by omega)); omega) (by decide) (by decide) ?_
  refine e_ireturn .int dX2_measure_40 rfl rfl ?_
  exact ⟨rfl, rfl, rfl, rfl⟩
set_option maxHeartbeats 4000000 in
set_option maxRecDepth 100000 in
theorem k_X2_measure_1 (G : zG) {L p : Nat} {f : Nat → Nat} {mi : zFi} {ml : zFl} {mr : zFr} (hL : zLife mr L) (hp : p < 3) (hf : zRow mi (L + 2 + p) f) (hle : zLe f) : zMet G 1 yX2_measure cX2_measure 3 (some .int) [.ref L, .int (nI p), .int (nI 1)] 238 mi ml mr 238 (zPq (some (.int (nI (zMeas 1 f)))) mi ml mr) := by
  refine z_intro ([.ref L, .int (nI p), .int (nI 1)]) (by decide) rfl (Nat.le_of_ble_eq_true rfl) ?_
  refine e_iload_n 1 dX2_measure_0 rfl rfl ?_
  refine e_lookup 41 (off := 40) dX2_measure_1 (by decide) (by decide) (by decide) ?_
  refine e_aload_n 42 dX2_measure_41 rfl rfl ?_
  refine e_iload_n 43 dX2_measure_42 rfl rfl ?_
  refine e_bipush 45 hbi_35 dX2_measure_43 rfl ?_
  refine e_bipush 47 hbi_50 dX2_measure_45 rfl ?_
  refine c_Vqi 50 (ci := 2) dX2_measure_47 (show zMet G 0 yX2_total cX2_total 6 (some .int) [.ref L, .int (nI p), .int (nI 35), .int (nI 50)] 238 mi ml mr 238 (zPq (some (.int (nI (zsum f 35 16)))) mi ml mr) from k_X2_total G hL hp (by decide) (by decide) (fun j h1 h2 => hf j (by omega) (by omega))) lm_X2_32 zi_yX2_total zs_yX2_total rfl hL.k0 hL.l0 rfl rfl rfl (Nat.le_of_ble_eq_true rfl) (Nat.le_of_ble_eq_true rfl) (Nat.le_of_ble_eq_true rfl) (Nat.le_refl _) (Nat.le_refl _) ?_
  refine e_bipush 52 hbi_16 dX2_measure_50 rfl ?_
  refine e_idivN 53 dX2_measure_52 rfl (by have := zsum_le (f := f) (M := 1000) 16 35 (fun i h1 h2 => hle i (by omega) (by omega)); omega) (by decide) (by decide) ?_
  refine e_ireturn .int dX2_measure_53 rfl rfl ?_
  exact ⟨rfl, rfl, rfl, rfl⟩
set_option maxHeartbeats 4000000 in
set_option maxRecDepth 100000 in
theorem k_X2_measure_2 (G : zG) {L p : Nat} {f : Nat → Nat} {mi : zFi} {ml : zFl} {mr : zFr} (hL : zLife mr L) (hp : p < 3) (hf : zRow mi (L + 2 + p) f) (hle : zLe f) : zMet G 1 yX2_measure cX2_measure 3 (some .int) [.ref L, .int (nI p), .int (nI 2)] 238 mi ml mr 238 (zPq (some (.int (nI (zMeas 2 f)))) mi ml mr) := by
  refine z_intro ([.ref L, .int (nI p), .int (nI 2)]) (by decide) rfl (Nat.le_of_ble_eq_true rfl) ?_
  refine e_iload_n 1 dX2_measure_0 rfl rfl ?_
  refine e_lookup 54 (off := 53) dX2_measure_1 (by decide) (by decide) (by decide) ?_
  refine e_aload_n 55 dX2_measure_54 rfl rfl ?_
  refine e_iload_n 56 dX2_measure_55 rfl rfl ?_
  refine e_bipush 58 hbi_10 dX2_measure_56 rfl ?_
  refine e_bipush 60 hbi_69 dX2_measure_58 rfl ?_
  refine c_Vqi 63 (ci := 2) dX2_measure_60 (show zMet G 0 yX2_total cX2_total 6 (some .int) [.ref L, .int (nI p), .int (nI 10), .int (nI 69)] 238 mi ml mr 238 (zPq (some (.int (nI (zsum f 10 60)))) mi ml mr) from k_X2_total G hL hp (by decide) (by decide) (fun j h1 h2 => hf j (by omega) (by omega))) lm_X2_32 zi_yX2_total zs_yX2_total rfl hL.k0 hL.l0 rfl rfl rfl (Nat.le_of_ble_eq_true rfl) (Nat.le_of_ble_eq_true rfl) (Nat.le_of_ble_eq_true rfl) (Nat.le_refl _) (Nat.le_refl _) ?_
  refine e_bipush 65 hbi_60 dX2_measure_63 rfl ?_
  refine e_idivN 66 dX2_measure_65 rfl (by have := zsum_le (f := f) (M := 1000) 60 10 (fun i h1 h2 => hle i (by omega) (by omega)); omega) (by decide) (by decide) ?_
  refine e_ireturn .int dX2_measure_66 rfl rfl ?_
  exact ⟨rfl, rfl, rfl, rfl⟩
set_option maxHeartbeats 4000000 in
set_option maxRecDepth 100000 in
theorem k_X2_measure (G : zG) {L p : Nat} {f : Nat → Nat} {mi : zFi} {ml : zFl} {mr : zFr} (hL : zLife mr L) (hp : p < 3) (hf : zRow mi (L + 2 + p) f) (hle : zLe f) {who : Nat} (hw : who < 3) : zMet G 1 yX2_measure cX2_measure 3 (some .int) [.ref L, .int (nI p), .int (nI who)] 238 mi ml mr 238 (zPq (some (.int (nI (zMeas who f)))) mi ml mr) := by
  have h3 : who = 0 ∨ who = 1 ∨ who = 2 := by omega
  rcases h3 with rfl | rfl | rfl
  · exact k_X2_measure_0 G hL hp hf hle
  · exact k_X2_measure_1 G hL hp hf hle
  · exact k_X2_measure_2 G hL hp hf hle
set_option maxHeartbeats 4000000 in
set_option maxRecDepth 100000 in
theorem k_X2_youngTwoAhead (G : zG) {L p y : Nat} {g : Nat → Nat} {mi : zFi} {ml : zFl} {mr : zFr} (hL : zLife mr L) (hp : p < 3) (hy : y < 100) (hg : ∀ t, t ≤ y → mi (L + 6 + p) t = nI (g t)) : zMet G 0 yX2_youngTwoAhead cX2_youngTwoAhead 3 (some .int) [.ref L, .int (nI p), .int (nI y)] 238 mi ml mr 238 (zPq (some (.int (nI (if 2 ≤ y then g (y - 2) else 0)))) mi ml mr) := by
  refine z_intro ([.ref L, .int (nI p), .int (nI y)]) (by decide) rfl (Nat.le_of_ble_eq_true rfl) ?_
  refine e_iload_n 1 dX2_youngTwoAhead_0 rfl rfl ?_
  refine e_iconst 2 hic_2 dX2_youngTwoAhead_1 rfl ?_
  refine e_icmp_ltN 18 5 dX2_youngTwoAhead_2 (by decide) rfl (by omega) (by omega) (fun h2 => ?_) (fun h2 => ?_)
  · refine e_iconst 19 hic_0 dX2_youngTwoAhead_18 rfl ?_
    refine e_ireturn .int dX2_youngTwoAhead_19 rfl rfl ?_
    exact ⟨by first | rw [if_pos (by omega)] | rw [if_neg (by omega)], rfl, rfl, rfl⟩
  · refine e_aload_n 6 dX2_youngTwoAhead_5 rfl rfl ?_
    refine e_getr 9 dX2_youngTwoAhead_6 lf_X2_16 rfl rfl hL.k0 hL.l0 hL.r1 ?_
    refine e_iload_n 10 dX2_youngTwoAhead_9 rfl rfl ?_
    refine e_aald 11 dX2_youngTwoAhead_10 rfl hL.k5 hL.l5 rfl (hL.n5 hp) (hL.yg hp) ?_
    refine e_iload_n 12 dX2_youngTwoAhead_11 rfl rfl ?_
    refine e_iconst 13 hic_2 dX2_youngTwoAhead_12 rfl ?_
    first | refine e_isubN 14 dX2_youngTwoAhead_13 rfl (by omega) ?_ | refine e_isub 14 dX2_youngTwoAhead_13 rfl ?_
    refine e_iald 15 dX2_youngTwoAhead_14 rfl (hL.ky hp) (hL.ly hp) rfl (hL.nb hp (by omega)) (hg (y - 2) (by omega)) ?_
    refine e_goto 19 dX2_youngTwoAhead_15 (by decide) ?_
    refine e_ireturn .int dX2_youngTwoAhead_19 rfl rfl ?_
    exact ⟨by first | rw [if_pos (by omega)] | rw [if_neg (by omega)], rfl, rfl, rfl⟩

/-- what is heard at p: the young there, and of each other place so many tenths of the young there -/
def zHearT (nr yv : Nat → Nat) (p : Nat) : Nat → Nat := fun q => if q = p then 0 else nr (3 * p + q) * yv q / 10
def zHear (nr yv : Nat → Nat) (p N : Nat) : Nat := min (yv p + zsum (zHearT nr yv p) 0 N) 1000
theorem zHear_le {nr yv : Nat → Nat} {p N : Nat} : zHear nr yv p N ≤ 1000 := Nat.min_le_right _ _
set_option maxHeartbeats 4000000 in
set_option maxRecDepth 100000 in
theorem l_X2_heard (G : zG) (d : Nat) (Q : zQ) {L D p y : Nat} {Λ : zLd} {yv : Nat → Nat} {mi : zFi} {ml : zFl} {mr : zFr} (hL : zLife mr L) (hD : zLandL mr D) (hΛ : zLandR mi D Λ) (hW : zLandW Λ) (hp : p < Λ 0 0) (hy : y < 100) (hg : ∀ q, q < Λ 0 0 → mi (L + 6 + q) y = nI (yv q)) (hv : ∀ q, q < Λ 0 0 → yv q ≤ 1000) : ∀ (k q : Nat), q + k = Λ 0 0 → ∀ s : Nat, Q (some (.int (nI (min (s + zsum (zHearT (Λ 1) yv p) q k) 1000)))) mi ml mr → s + zsum (zHearT (Λ 1) yv p) q k < 2 ^ 31 → zE G (zRm (d + 1) 238 238) (zQm G 238 238 Q) yX2_heard.cls yX2_heard.name cX2_heard 6 (some .int) 238 13 [.ref L, .ref D, .int (nI p), .int (nI y), .int (nI s), .int (nI q)] [] 238 mi ml mr := by
  intro k
  induction k with
  | zero =>
    intro q h s hQ hs
    have hP3 := hW.1.1
    refine e_iload 15 dX2_heard_13 rfl rfl ?_
    refine e_aload_n 16 dX2_heard_15 rfl rfl ?_
    refine e_geti 19 dX2_heard_16 lf_X2_54 rfl rfl hD.k0 hD.l0 (hΛ.f0) ?_
    refine e_icmp_geN 59 22 dX2_heard_19 (by decide) rfl (by omega) (by omega) (fun h19 => ?_) (fun h19 => ?_)
    · refine e_iload 61 dX2_heard_59 rfl rfl ?_
      refine e_sipush 64 hsi_1000 dX2_heard_61 rfl ?_
      refine e_mminN 67 dX2_heard_64 lmm_X2_105 rfl (Nat.le_of_ble_eq_true rfl) (Nat.le_of_ble_eq_true rfl) (Nat.le_refl _) (Nat.le_refl _) (by have e : s + zsum (zHearT (Λ 1) yv p) q 0 = s := rfl; omega) (by omega) ?_
      refine e_ireturn .int dX2_heard_67 rfl rfl ?_
      exact hQ
    · exact absurd h19 (by omega)
  | succ k ih =>
    intro q h s hQ hs
    have hP3 := hW.1.1
    refine e_iload 15 dX2_heard_13 rfl rfl ?_
    refine e_aload_n 16 dX2_heard_15 rfl rfl ?_
    refine e_geti 19 dX2_heard_16 lf_X2_54 rfl rfl hD.k0 hD.l0 (hΛ.f0) ?_
    refine e_icmp_geN 59 22 dX2_heard_19 (by decide) rfl (by omega) (by omega) (fun h19 => ?_) (fun h19 => ?_)
    · exact absurd h19 (by omega)
    · refine e_iload 24 dX2_heard_22 rfl rfl ?_
      refine e_iload_n 25 dX2_heard_24 rfl rfl ?_
      refine e_icmp_eqN 53 28 dX2_heard_25 (by decide) rfl (by omega) (by omega) (fun h25 => ?_) (fun h25 => ?_)
      · refine e_iinc 56 dX2_heard_53 rfl (by decide) rfl (z_inc hii_1) (zst1_5 rfl) ?_
        refine e_goto 13 dX2_heard_56 (by decide) ?_
        first
          | (have e2 : s + zsum (zHearT (Λ 1) yv p) q (k + 1) = s + zsum (zHearT (Λ 1) yv p) (q + 1) k := (by show s + (zHearT (Λ 1) yv p q + _) = _; rw [show zHearT (Λ 1) yv p q = 0 from if_pos h25, Nat.zero_add]); rw [e2] at hQ hs; exact ih (q + 1) (by omega) s hQ hs)
          | (have e2 : s + zsum (zHearT (Λ 1) yv p) q (k + 1) = s + Λ 1 (3 * p + q) * yv q / 10 + zsum (zHearT (Λ 1) yv p) (q + 1) k := (by show s + (zHearT (Λ 1) yv p q + _) = _; rw [show zHearT (Λ 1) yv p q = Λ 1 (3 * p + q) * yv q / 10 from if_neg h25, Nat.add_assoc]); rw [e2] at hQ hs; exact ih (q + 1) (by omega) _ hQ hs)
      · refine e_iload 30 dX2_heard_28 rfl rfl ?_
        refine e_aload_n 31 dX2_heard_30 rfl rfl ?_
        refine e_iload_n 32 dX2_heard_31 rfl rfl ?_
        refine e_iload 34 dX2_heard_32 rfl rfl ?_
        refine c_Vqi 37 (ci := 0) dX2_heard_34 (k_X0_nearness G hD hΛ (by omega) (by omega)) lm_X2_102 zi_yX0_nearness zs_yX0_nearness rfl hD.k0 hD.l0 rfl rfl rfl (Nat.le_of_ble_eq_true rfl) (Nat.le_of_ble_eq_true rfl) (Nat.le_of_ble_eq_true rfl) (Nat.le_refl _) (Nat.le_refl _) ?_
        refine e_aload_n 38 dX2_heard_37 rfl rfl ?_
        refine e_getr 41 dX2_heard_38 lf_X2_16 rfl rfl hL.k0 hL.l0 hL.r1 ?_
        refine e_iload 43 dX2_heard_41 rfl rfl ?_
        refine e_aald 44 dX2_heard_43 rfl hL.k5 hL.l5 rfl (hL.n5 (by omega)) (hL.yg (by omega)) ?_
        refine e_iload_n 45 dX2_heard_44 rfl rfl ?_
        refine e_iald 46 dX2_heard_45 rfl (hL.ky (by omega)) (hL.ly (by omega)) rfl (hL.nb (by omega) hy) (hg q (by omega)) ?_
        first | refine e_imulN 47 dX2_heard_46 rfl ?_ | refine e_imul 47 dX2_heard_46 rfl ?_
        refine e_bipush 49 hbi_10 dX2_heard_47 rfl ?_
        refine e_idivN 50 dX2_heard_49 rfl (by have h1 := hW.2.1 (3 * p + q) (by omega); have h2 := hv q (by omega); have h3 := Nat.mul_le_mul h1 h2; omega) (by decide) (by decide) ?_
        first | refine e_iaddN 51 dX2_heard_50 rfl ?_ | refine e_iadd 51 dX2_heard_50 rfl ?_
        refine e_istore 53 dX2_heard_51 rfl (by decide) (zst1_4 rfl) ?_
        refine e_iinc 56 dX2_heard_53 rfl (by decide) rfl (z_inc hii_1) (zst1_5 rfl) ?_
        refine e_goto 13 dX2_heard_56 (by decide) ?_
        first
          | (have e2 : s + zsum (zHearT (Λ 1) yv p) q (k + 1) = s + zsum (zHearT (Λ 1) yv p) (q + 1) k := (by show s + (zHearT (Λ 1) yv p q + _) = _; rw [show zHearT (Λ 1) yv p q = 0 from if_pos h25, Nat.zero_add]); rw [e2] at hQ hs; exact ih (q + 1) (by omega) s hQ hs)
          | (have e2 : s + zsum (zHearT (Λ 1) yv p) q (k + 1) = s + Λ 1 (3 * p + q) * yv q / 10 + zsum (zHearT (Λ 1) yv p) (q + 1) k := (by show s + (zHearT (Λ 1) yv p q + _) = _; rw [show zHearT (Λ 1) yv p q = Λ 1 (3 * p + q) * yv q / 10 from if_neg h25, Nat.add_assoc]); rw [e2] at hQ hs; exact ih (q + 1) (by omega) _ hQ hs)
set_option maxHeartbeats 4000000 in
set_option maxRecDepth 100000 in
theorem k_X2_heard (G : zG) {L D p y : Nat} {Λ : zLd} {yv : Nat → Nat} {mi : zFi} {ml : zFl} {mr : zFr} (hL : zLife mr L) (hD : zLandL mr D) (hΛ : zLandR mi D Λ) (hW : zLandW Λ) (hp : p < Λ 0 0) (hy : y < 100) (hg : ∀ q, q < Λ 0 0 → mi (L + 6 + q) y = nI (yv q)) (hv : ∀ q, q < Λ 0 0 → yv q ≤ 1000) : zMet G 1 yX2_heard cX2_heard 6 (some .int) [.ref L, .ref D, .int (nI p), .int (nI y)] 238 mi ml mr 238 (zPq (some (.int (nI (zHear (Λ 1) yv p (Λ 0 0))))) mi ml mr) := by
  have hP3 := hW.1.1
  refine z_intro ([.ref L, .ref D, .int (nI p), .int (nI y), zx, zx]) (by decide) rfl (Nat.le_of_ble_eq_true rfl) ?_
  refine e_aload_n 1 dX2_heard_0 rfl rfl ?_
  refine e_getr 4 dX2_heard_1 lf_X2_16 rfl rfl hL.k0 hL.l0 hL.r1 ?_
  refine e_iload_n 5 dX2_heard_4 rfl rfl ?_
  refine e_aald 6 dX2_heard_5 rfl hL.k5 hL.l5 rfl (hL.n5 (by omega)) (hL.yg (by omega)) ?_
  refine e_iload_n 7 dX2_heard_6 rfl rfl ?_
  refine e_iald 8 dX2_heard_7 rfl (hL.ky (by omega)) (hL.ly (by omega)) rfl (hL.nb (by omega) hy) (hg p hp) ?_
  refine e_istore 10 dX2_heard_8 rfl (by decide) (zst1_4 rfl) ?_
  refine e_iconst 11 hic_0 dX2_heard_10 rfl ?_
  refine e_istore 13 dX2_heard_11 rfl (by decide) (zst1_5 rfl) ?_
  refine l_X2_heard G _ _ hL hD hΛ hW hp hy hg hv (Λ 0 0) 0 (by omega) (yv p) ⟨rfl, rfl, rfl, rfl⟩ ?_
  have h1 := zsum_le (f := zHearT (Λ 1) yv p) (M := 900) (Λ 0 0) 0 (fun i h1 h2 => by
    unfold zHearT
    split
    · omega
    · have h1 := hW.2.1 (3 * p + i) (by omega)
      have h2 := hv i (by omega)
      have h3 := Nat.mul_le_mul h1 h2
      omega)
  have h2 := hv p hp
  have h3 : Λ 0 0 * 900 ≤ 3 * 900 := Nat.mul_le_mul_right _ hP3
  omega

theorem va_cpy_10 {f g : Nat → Int32} {a : Nat} : va_cpy f g 10 11 59 a = if 11 ≤ a ∧ a < 11 + 59 then f (10 + (a - 11)) else g a := rfl
set_option maxHeartbeats 4000000 in
set_option maxRecDepth 100000 in
theorem k_X2_growOlder (G : zG) {L p : Nat} {f : Nat → Nat} {mi : zFi} {ml : zFl} {mr : zFr} (hL : zLife mr L) (hp : p < 3) (hf : zRow mi (L + 2 + p) f) : zMet G 1 yX2_growOlder cX2_growOlder 2 none [.ref L, .int (nI p)] 238 mi ml mr 238 (zPv fun a b c => zOnly (L + 2 + p) mi a ∧ zRow a (L + 2 + p) (zGrow f) ∧ b = ml ∧ c = mr) := by
  refine z_intro ([.ref L, .int (nI p)]) (by decide) rfl (Nat.le_of_ble_eq_true rfl) ?_
  refine e_aload_n 1 dX2_growOlder_0 rfl rfl ?_
  refine e_getr 4 dX2_growOlder_1 lf_X2_11 rfl rfl hL.k0 hL.l0 hL.r0 ?_
  refine e_iload_n 5 dX2_growOlder_4 rfl rfl ?_
  refine e_aald 6 dX2_growOlder_5 rfl hL.k1 hL.l1 rfl (hL.n1 hp) (hL.sh hp) ?_
  refine e_bipush 8 hbi_10 dX2_growOlder_6 rfl ?_
  refine e_aload_n 9 dX2_growOlder_8 rfl rfl ?_
  refine e_getr 12 dX2_growOlder_9 lf_X2_11 rfl rfl hL.k0 hL.l0 hL.r0 ?_
  refine e_iload_n 13 dX2_growOlder_12 rfl rfl ?_
  refine e_aald 14 dX2_growOlder_13 rfl hL.k1 hL.l1 rfl (hL.n1 hp) (hL.sh hp) ?_
  refine e_bipush 16 hbi_11 dX2_growOlder_14 rfl ?_
  refine e_bipush 18 hbi_59 dX2_growOlder_16 rfl ?_
  refine e_copy 21 dX2_growOlder_18 lcp_X2 lnat lsta ln_J10 rfl (hL.ks hp) (hL.ks hp) (hL.ls hp) (hL.ls hp) rfl rfl rfl (by rw [hL.ns hp]; decide) (by rw [hL.ns hp]; decide) (Nat.le_of_ble_eq_true rfl) (Nat.le_of_ble_eq_true rfl) ?_
  refine e_aload_n 22 dX2_growOlder_21 rfl rfl ?_
  refine e_getr 25 dX2_growOlder_22 lf_X2_11 rfl rfl hL.k0 hL.l0 hL.r0 ?_
  refine e_iload_n 26 dX2_growOlder_25 rfl rfl ?_
  refine e_aald 27 dX2_growOlder_26 rfl hL.k1 hL.l1 rfl (hL.n1 hp) (hL.sh hp) ?_
  refine e_bipush 29 hbi_10 dX2_growOlder_27 rfl ?_
  refine e_iconst 30 hic_0 dX2_growOlder_29 rfl ?_
  refine e_iast 31 dX2_growOlder_30 rfl (hL.ks hp) (hL.ls hp) rfl (hL.na hp (by decide)) ?_
  refine e_vreturn dX2_growOlder_31 rfl ?_
  refine ⟨rfl, fun q hq => ?_, fun a h1 h2 => ?_, rfl, rfl⟩
  · rw [zp_r _ _ _ hq, zu_n _ _ hq]
  · by_cases e : a = 10
    · subst e
      rw [zp_s]
      rfl
    · rw [zp_k _ _ e, zu_s, va_cpy_10, if_pos (by omega), show 10 + (a - 11) = a - 1 by omega, hf _ (by omega) (by omega)]
      unfold zGrow
      rw [if_neg e]

set_option maxHeartbeats 4000000 in
set_option maxRecDepth 100000 in
theorem l_X2_takeUp (G : zG) (d : Nat) (Q : zQ) {L p s par : Nat} {ml : zFl} {mr : zFr} (hL : zLife mr L) (hp : p < 3) (hs : s ≤ 9000) (hpar : par ≤ 1000) : ∀ (k age : Nat) (g : Nat → Nat) (mi : zFi) (v6 v7 v8 : Value), 10 ≤ age → age + k = 19 + 1 → zLe g → zRow mi (L + 2 + p) g → (∀ mi', zOnly (L + 2 + p) mi mi' → zRow mi' (L + 2 + p) (fun a => if age ≤ a ∧ a ≤ 19 then zTakeF s par (g a) else g a) → Q none mi' ml mr) → zE G (zRm d 238 238) (zQm G 238 238 Q) yX2_takeUp.cls yX2_takeUp.name cX2_takeUp 9 none 238 4 [.ref L, .int (nI p), .long (lN s), zx, .int (nI par), .int (nI age), v6, v7, v8] [] 238 mi ml mr := by
  intro k
  induction k with
  | zero =>
    intro age g mi v6 v7 v8 h10 h hle hg hQ
    refine e_iload 6 dX2_takeUp_4 rfl rfl ?_
    refine e_bipush 8 hbi_19 dX2_takeUp_6 rfl ?_
    refine e_icmp_gtN 66 11 dX2_takeUp_8 (by decide) rfl (by omega) (by omega) (fun h8 => ?_) (fun h8 => ?_)
    · refine e_vreturn dX2_takeUp_66 rfl ?_
      exact hQ mi (fun _ _ => rfl) (zRow_none (F := zTakeF s par) (by omega) hg)
    · exact absurd h8 (by omega)
  | succ k ih =>
    intro age g mi v6 v7 v8 h10 h hle hg hQ
    refine e_iload 6 dX2_takeUp_4 rfl rfl ?_
    refine e_bipush 8 hbi_19 dX2_takeUp_6 rfl ?_
    refine e_icmp_gtN 66 11 dX2_takeUp_8 (by decide) rfl (by omega) (by omega) (fun h8 => ?_) (fun h8 => ?_)
    · exact absurd h8 (by omega)
    · refine e_aload_n 12 dX2_takeUp_11 rfl rfl ?_
      refine e_getr 15 dX2_takeUp_12 lf_X2_11 rfl rfl hL.k0 hL.l0 hL.r0 ?_
      refine e_iload_n 16 dX2_takeUp_15 rfl rfl ?_
      refine e_aald 17 dX2_takeUp_16 rfl hL.k1 hL.l1 rfl (hL.n1 hp) (hL.sh hp) ?_
      refine e_iload 19 dX2_takeUp_17 rfl rfl ?_
      refine e_iald 20 dX2_takeUp_19 rfl (hL.ks hp) (hL.ls hp) rfl (hL.na hp (by omega)) (hg age h10 (by omega)) ?_
      refine e_istore 22 dX2_takeUp_20 rfl (by decide) (zst1_6 rfl) ?_
      refine e_lload_n 23 dX2_takeUp_22 rfl rfl ?_
      refine e_sipush 26 hsi_1000 dX2_takeUp_23 rfl ?_
      refine e_iload 28 dX2_takeUp_26 rfl rfl ?_
      first | refine e_isubN 29 dX2_takeUp_28 rfl (by have := hle age h10 (by omega); omega) ?_ | refine e_isub 29 dX2_takeUp_28 rfl ?_
      refine e_i2l 30 dX2_takeUp_29 rfl ?_
      rw [nI_l (by omega)]
      refine e_lmul 31 dX2_takeUp_30 rfl ?_
      rw [lN_mul]
      refine e_sipush 34 hsi_1000 dX2_takeUp_31 rfl ?_
      refine e_iload 36 dX2_takeUp_34 rfl rfl ?_
      first | refine e_isubN 37 dX2_takeUp_36 rfl (by omega) ?_ | refine e_isub 37 dX2_takeUp_36 rfl ?_
      refine e_i2l 38 dX2_takeUp_37 rfl ?_
      rw [nI_l (by omega)]
      refine e_lmul 39 dX2_takeUp_38 rfl ?_
      rw [lN_mul]
      refine e_ldc2_w 42 lc_X2_110 dX2_takeUp_39 rfl ?_
      refine e_ldiv 43 dX2_takeUp_42 rfl (by decide) ?_
      rw [lN_div (by have h1 : s * (1000 - g age) ≤ 9000 * 1000 := Nat.mul_le_mul hs (by omega); have h2 : s * (1000 - g age) * (1000 - par) ≤ 9000 * 1000 * 1000 := Nat.mul_le_mul h1 (by omega); omega) (by decide)]
      refine e_lstore 45 dX2_takeUp_43 rfl (by decide) (zst2_7 rfl) ?_
      refine e_aload_n 46 dX2_takeUp_45 rfl rfl ?_
      refine e_getr 49 dX2_takeUp_46 lf_X2_11 rfl rfl hL.k0 hL.l0 hL.r0 ?_
      refine e_iload_n 50 dX2_takeUp_49 rfl rfl ?_
      refine e_aald 51 dX2_takeUp_50 rfl hL.k1 hL.l1 rfl (hL.n1 hp) (hL.sh hp) ?_
      refine e_iload 53 dX2_takeUp_51 rfl rfl ?_
      refine e_iload 55 dX2_takeUp_53 rfl rfl ?_
      refine e_lload 57 dX2_takeUp_55 rfl rfl ?_
      refine e_l2i 58 dX2_takeUp_57 rfl ?_
      rw [lN_i]
      first | refine e_iaddN 59 dX2_takeUp_58 rfl ?_ | refine e_iadd 59 dX2_takeUp_58 rfl ?_
      refine e_iast 60 dX2_takeUp_59 rfl (hL.ks hp) (hL.ls hp) rfl (hL.na hp (by omega)) ?_
      refine e_iinc 63 dX2_takeUp_60 rfl (by decide) rfl (z_inc hii_1) (zst1_5 rfl) ?_
      refine e_goto 4 dX2_takeUp_63 (by decide) ?_
      refine ih (age + 1) (fun a => if a = age then zTakeF s par (g a) else g a) _ _ _ _ (by omega) (by omega) ?_ (zRow_step (F := zTakeF s par) (age := age) hg) (fun mi' h1 h2 => hQ mi' (zOnly.p.trans h1) (zRow_done (F := zTakeF s par) (by omega) h2))
      intro a h1 h2
      dsimp only
      split
      · exact zTakeF_le hs hpar (hle a h1 h2)
      · exact hle a h1 h2
set_option maxHeartbeats 4000000 in
set_option maxRecDepth 100000 in
theorem k_X2_takeUp (G : zG) {L p s par : Nat} {g : Nat → Nat} {mi : zFi} {ml : zFl} {mr : zFr} (hL : zLife mr L) (hp : p < 3) (hs : s ≤ 9000) (hpar : par ≤ 1000) (hle : zLe g) (hg : zRow mi (L + 2 + p) g) : zMet G 0 yX2_takeUp cX2_takeUp 9 none [.ref L, .int (nI p), .long (lN s), .int (nI par)] 238 mi ml mr 238 (zPv fun a b c => zOnly (L + 2 + p) mi a ∧ zRow a (L + 2 + p) (zTake s par g) ∧ b = ml ∧ c = mr) := by
  refine z_intro ([.ref L, .int (nI p), .long (lN s), zx, .int (nI par), zx, zx, zx, zx]) (by decide) rfl (Nat.le_of_ble_eq_true rfl) ?_
  refine e_bipush 2 hbi_13 dX2_takeUp_0 rfl ?_
  refine e_istore 4 dX2_takeUp_2 rfl (by decide) (zst1_5 rfl) ?_
  exact l_X2_takeUp G _ _ hL hp hs hpar 7 13 g mi _ _ _ (by decide) (by decide) hle hg (fun mi' h1 h2 => ⟨rfl, h1, h2, rfl, rfl⟩)

set_option maxHeartbeats 4000000 in
set_option maxRecDepth 100000 in
theorem l_X2_dropIt (G : zG) (d : Nat) (Q : zQ) {L p s : Nat} {ml : zFl} {mr : zFr} (hL : zLife mr L) (hp : p < 3) (hs : s ≤ 9000) : ∀ (k age : Nat) (g : Nat → Nat) (mi : zFi) (v4 : Value), 10 ≤ age → age + k = 19 + 1 → zLe g → zRow mi (L + 2 + p) g → (∀ mi', zOnly (L + 2 + p) mi mi' → zRow mi' (L + 2 + p) (fun a => if age ≤ a ∧ a ≤ 19 then zDropF s (g a) else g a) → Q none mi' ml mr) → zE G (zRm d 238 238) (zQm G 238 238 Q) yX2_dropIt.cls yX2_dropIt.name cX2_dropIt 5 none 238 3 [.ref L, .int (nI p), .int (nI s), .int (nI age), v4] [] 238 mi ml mr := by
  intro k
  induction k with
  | zero =>
    intro age g mi v4 h10 h hle hg hQ
    refine e_iload_n 4 dX2_dropIt_3 rfl rfl ?_
    refine e_bipush 6 hbi_19 dX2_dropIt_4 rfl ?_
    refine e_icmp_gtN 44 9 dX2_dropIt_6 (by decide) rfl (by omega) (by omega) (fun h6 => ?_) (fun h6 => ?_)
    · refine e_vreturn dX2_dropIt_44 rfl ?_
      exact hQ mi (fun _ _ => rfl) (zRow_none (F := zDropF s) (by omega) hg)
    · exact absurd h6 (by omega)
  | succ k ih =>
    intro age g mi v4 h10 h hle hg hQ
    refine e_iload_n 4 dX2_dropIt_3 rfl rfl ?_
    refine e_bipush 6 hbi_19 dX2_dropIt_4 rfl ?_
    refine e_icmp_gtN 44 9 dX2_dropIt_6 (by decide) rfl (by omega) (by omega) (fun h6 => ?_) (fun h6 => ?_)
    · exact absurd h6 (by omega)
    · refine e_aload_n 10 dX2_dropIt_9 rfl rfl ?_
      refine e_getr 13 dX2_dropIt_10 lf_X2_11 rfl rfl hL.k0 hL.l0 hL.r0 ?_
      refine e_iload_n 14 dX2_dropIt_13 rfl rfl ?_
      refine e_aald 15 dX2_dropIt_14 rfl hL.k1 hL.l1 rfl (hL.n1 hp) (hL.sh hp) ?_
      refine e_iload_n 16 dX2_dropIt_15 rfl rfl ?_
      refine e_iald 17 dX2_dropIt_16 rfl (hL.ks hp) (hL.ls hp) rfl (hL.na hp (by omega)) (hg age h10 (by omega)) ?_
      refine e_istore 19 dX2_dropIt_17 rfl (by decide) (zst1_4 rfl) ?_
      refine e_aload_n 20 dX2_dropIt_19 rfl rfl ?_
      refine e_getr 23 dX2_dropIt_20 lf_X2_11 rfl rfl hL.k0 hL.l0 hL.r0 ?_
      refine e_iload_n 24 dX2_dropIt_23 rfl rfl ?_
      refine e_aald 25 dX2_dropIt_24 rfl hL.k1 hL.l1 rfl (hL.n1 hp) (hL.sh hp) ?_
      refine e_iload_n 26 dX2_dropIt_25 rfl rfl ?_
      refine e_iload 28 dX2_dropIt_26 rfl rfl ?_
      refine e_iload_n 29 dX2_dropIt_28 rfl rfl ?_
      refine e_iload 31 dX2_dropIt_29 rfl rfl ?_
      first | refine e_imulN 32 dX2_dropIt_31 rfl ?_ | refine e_imul 32 dX2_dropIt_31 rfl ?_
      refine e_sipush 35 hsi_10000 dX2_dropIt_32 rfl ?_
      refine e_idivN 36 dX2_dropIt_35 rfl (by have h1 : s * g age ≤ 9000 * 1000 := Nat.mul_le_mul hs (hle age h10 (by omega)); omega) (by decide) (by decide) ?_
      first | refine e_isubN 37 dX2_dropIt_36 rfl (by have h1 : s * g age ≤ 9000 * g age := Nat.mul_le_mul_right _ hs; omega) ?_ | refine e_isub 37 dX2_dropIt_36 rfl ?_
      refine e_iast 38 dX2_dropIt_37 rfl (hL.ks hp) (hL.ls hp) rfl (hL.na hp (by omega)) ?_
      refine e_iinc 41 dX2_dropIt_38 rfl (by decide) rfl (z_inc hii_1) (zst1_3 rfl) ?_
      refine e_goto 3 dX2_dropIt_41 (by decide) ?_
      refine ih (age + 1) (fun a => if a = age then zDropF s (g a) else g a) _ _ (by omega) (by omega) ?_ (zRow_step (F := zDropF s) (age := age) hg) (fun mi' h1 h2 => hQ mi' (zOnly.p.trans h1) (zRow_done (F := zDropF s) (by omega) h2))
      intro a h1 h2
      dsimp only
      split
      · exact zDropF_le (hle a h1 h2)
      · exact hle a h1 h2
set_option maxHeartbeats 4000000 in
set_option maxRecDepth 100000 in
theorem k_X2_dropIt (G : zG) {L p s : Nat} {g : Nat → Nat} {mi : zFi} {ml : zFl} {mr : zFr} (hL : zLife mr L) (hp : p < 3) (hs : s ≤ 9000) (hle : zLe g) (hg : zRow mi (L + 2 + p) g) : zMet G 0 yX2_dropIt cX2_dropIt 5 none [.ref L, .int (nI p), .int (nI s)] 238 mi ml mr 238 (zPv fun a b c => zOnly (L + 2 + p) mi a ∧ zRow a (L + 2 + p) (zDrop s g) ∧ b = ml ∧ c = mr) := by
  refine z_intro ([.ref L, .int (nI p), .int (nI s), zx, zx]) (by decide) rfl (Nat.le_of_ble_eq_true rfl) ?_
  refine e_bipush 2 hbi_10 dX2_dropIt_0 rfl ?_
  refine e_istore_n 3 dX2_dropIt_2 rfl (by decide) (zst1_3 rfl) ?_
  exact l_X2_dropIt G _ _ hL hp hs 10 10 g mi _ (by decide) (by decide) hle hg (fun mi' h1 h2 => ⟨rfl, h1, h2, rfl, rfl⟩)

set_option maxHeartbeats 4000000 in
set_option maxRecDepth 100000 in
theorem l_X2_learnIt (G : zG) (d : Nat) (Q : zQ) {L p s : Nat} {ml : zFl} {mr : zFr} (hL : zLife mr L) (hp : p < 3) (hs : s ≤ 9000) : ∀ (k age : Nat) (g : Nat → Nat) (mi : zFi) (v4 : Value), 10 ≤ age → age + k = 50 + 1 → zLe g → zRow mi (L + 2 + p) g → (∀ mi', zOnly (L + 2 + p) mi mi' → zRow mi' (L + 2 + p) (fun a => if age ≤ a ∧ a ≤ 50 then zLrnF s (g a) else g a) → Q none mi' ml mr) → zE G (zRm d 238 238) (zQm G 238 238 Q) yX2_learnIt.cls yX2_learnIt.name cX2_learnIt 5 none 238 3 [.ref L, .int (nI p), .int (nI s), .int (nI age), v4] [] 238 mi ml mr := by
  intro k
  induction k with
  | zero =>
    intro age g mi v4 h10 h hle hg hQ
    refine e_iload_n 4 dX2_learnIt_3 rfl rfl ?_
    refine e_bipush 6 hbi_50 dX2_learnIt_4 rfl ?_
    refine e_icmp_gtN 48 9 dX2_learnIt_6 (by decide) rfl (by omega) (by omega) (fun h6 => ?_) (fun h6 => ?_)
    · refine e_vreturn dX2_learnIt_48 rfl ?_
      exact hQ mi (fun _ _ => rfl) (zRow_none (F := zLrnF s) (by omega) hg)
    · exact absurd h6 (by omega)
  | succ k ih =>
    intro age g mi v4 h10 h hle hg hQ
    refine e_iload_n 4 dX2_learnIt_3 rfl rfl ?_
    refine e_bipush 6 hbi_50 dX2_learnIt_4 rfl ?_
    refine e_icmp_gtN 48 9 dX2_learnIt_6 (by decide) rfl (by omega) (by omega) (fun h6 => ?_) (fun h6 => ?_)
    · exact absurd h6 (by omega)
    · refine e_aload_n 10 dX2_learnIt_9 rfl rfl ?_
      refine e_getr 13 dX2_learnIt_10 lf_X2_11 rfl rfl hL.k0 hL.l0 hL.r0 ?_
      refine e_iload_n 14 dX2_learnIt_13 rfl rfl ?_
      refine e_aald 15 dX2_learnIt_14 rfl hL.k1 hL.l1 rfl (hL.n1 hp) (hL.sh hp) ?_
      refine e_iload_n 16 dX2_learnIt_15 rfl rfl ?_
      refine e_iald 17 dX2_learnIt_16 rfl (hL.ks hp) (hL.ls hp) rfl (hL.na hp (by omega)) (hg age h10 (by omega)) ?_
      refine e_istore 19 dX2_learnIt_17 rfl (by decide) (zst1_4 rfl) ?_
      refine e_aload_n 20 dX2_learnIt_19 rfl rfl ?_
      refine e_getr 23 dX2_learnIt_20 lf_X2_11 rfl rfl hL.k0 hL.l0 hL.r0 ?_
      refine e_iload_n 24 dX2_learnIt_23 rfl rfl ?_
      refine e_aald 25 dX2_learnIt_24 rfl hL.k1 hL.l1 rfl (hL.n1 hp) (hL.sh hp) ?_
      refine e_iload_n 26 dX2_learnIt_25 rfl rfl ?_
      refine e_iload 28 dX2_learnIt_26 rfl rfl ?_
      refine e_iload_n 29 dX2_learnIt_28 rfl rfl ?_
      refine e_sipush 32 hsi_1000 dX2_learnIt_29 rfl ?_
      refine e_iload 34 dX2_learnIt_32 rfl rfl ?_
      first | refine e_isubN 35 dX2_learnIt_34 rfl (by have := hle age h10 (by omega); omega) ?_ | refine e_isub 35 dX2_learnIt_34 rfl ?_
      first | refine e_imulN 36 dX2_learnIt_35 rfl ?_ | refine e_imul 36 dX2_learnIt_35 rfl ?_
      refine e_sipush 39 hsi_10000 dX2_learnIt_36 rfl ?_
      refine e_idivN 40 dX2_learnIt_39 rfl (by have h1 : s * (1000 - g age) ≤ 9000 * 1000 := Nat.mul_le_mul hs (by omega); omega) (by decide) (by decide) ?_
      first | refine e_iaddN 41 dX2_learnIt_40 rfl ?_ | refine e_iadd 41 dX2_learnIt_40 rfl ?_
      refine e_iast 42 dX2_learnIt_41 rfl (hL.ks hp) (hL.ls hp) rfl (hL.na hp (by omega)) ?_
      refine e_iinc 45 dX2_learnIt_42 rfl (by decide) rfl (z_inc hii_1) (zst1_3 rfl) ?_
      refine e_goto 3 dX2_learnIt_45 (by decide) ?_
      refine ih (age + 1) (fun a => if a = age then zLrnF s (g a) else g a) _ _ (by omega) (by omega) ?_ (zRow_step (F := zLrnF s) (age := age) hg) (fun mi' h1 h2 => hQ mi' (zOnly.p.trans h1) (zRow_done (F := zLrnF s) (by omega) h2))
      intro a h1 h2
      dsimp only
      split
      · exact zLrnF_le hs (hle a h1 h2)
      · exact hle a h1 h2
set_option maxHeartbeats 4000000 in
set_option maxRecDepth 100000 in
theorem k_X2_learnIt (G : zG) {L p s : Nat} {g : Nat → Nat} {mi : zFi} {ml : zFl} {mr : zFr} (hL : zLife mr L) (hp : p < 3) (hs : s ≤ 9000) (hle : zLe g) (hg : zRow mi (L + 2 + p) g) : zMet G 0 yX2_learnIt cX2_learnIt 5 none [.ref L, .int (nI p), .int (nI s)] 238 mi ml mr 238 (zPv fun a b c => zOnly (L + 2 + p) mi a ∧ zRow a (L + 2 + p) (zLrn s g) ∧ b = ml ∧ c = mr) := by
  refine z_intro ([.ref L, .int (nI p), .int (nI s), zx, zx]) (by decide) rfl (Nat.le_of_ble_eq_true rfl) ?_
  refine e_bipush 2 hbi_35 dX2_learnIt_0 rfl ?_
  refine e_istore_n 3 dX2_learnIt_2 rfl (by decide) (zst1_3 rfl) ?_
  exact l_X2_learnIt G _ _ hL hp hs 16 35 g mi _ (by decide) (by decide) hle hg (fun mi' h1 h2 => ⟨rfl, h1, h2, rfl, rfl⟩)

set_option maxHeartbeats 4000000 in
set_option maxRecDepth 100000 in
theorem l_X2_raise (G : zG) (d : Nat) (Q : zQ) {L p a1 a2 v : Nat} {ml : zFl} {mr : zFr} (hL : zLife mr L) (hp : p < 3) (h2a : a2 ≤ 69) (hv : v ≤ 1000) : ∀ (k age : Nat) (g : Nat → Nat) (mi : zFi), 10 ≤ age → age + k = a2 + 1 → zLe g → zRow mi (L + 2 + p) g → (∀ mi', zOnly (L + 2 + p) mi mi' → zRow mi' (L + 2 + p) (fun a => if age ≤ a ∧ a ≤ a2 then zMaxF v (g a) else g a) → Q none mi' ml mr) → zE G (zRm (d + 1) 238 238) (zQm G 238 238 Q) yX2_raise.cls yX2_raise.name cX2_raise 6 none 238 3 [.ref L, .int (nI p), .int (nI a1), .int (nI a2), .int (nI v), .int (nI age)] [] 238 mi ml mr := by
  intro k
  induction k with
  | zero =>
    intro age g mi h10 h hle hg hQ
    refine e_iload 5 dX2_raise_3 rfl rfl ?_
    refine e_iload_n 6 dX2_raise_5 rfl rfl ?_
    refine e_icmp_gtN 38 9 dX2_raise_6 (by decide) rfl (by omega) (by omega) (fun h6 => ?_) (fun h6 => ?_)
    · refine e_vreturn dX2_raise_38 rfl ?_
      exact hQ mi (fun _ _ => rfl) (zRow_none (F := zMaxF v) (by omega) hg)
    · exact absurd h6 (by omega)
  | succ k ih =>
    intro age g mi h10 h hle hg hQ
    refine e_iload 5 dX2_raise_3 rfl rfl ?_
    refine e_iload_n 6 dX2_raise_5 rfl rfl ?_
    refine e_icmp_gtN 38 9 dX2_raise_6 (by decide) rfl (by omega) (by omega) (fun h6 => ?_) (fun h6 => ?_)
    · exact absurd h6 (by omega)
    · refine e_aload_n 10 dX2_raise_9 rfl rfl ?_
      refine e_getr 13 dX2_raise_10 lf_X2_11 rfl rfl hL.k0 hL.l0 hL.r0 ?_
      refine e_iload_n 14 dX2_raise_13 rfl rfl ?_
      refine e_aald 15 dX2_raise_14 rfl hL.k1 hL.l1 rfl (hL.n1 hp) (hL.sh hp) ?_
      refine e_iload 17 dX2_raise_15 rfl rfl ?_
      refine e_aload_n 18 dX2_raise_17 rfl rfl ?_
      refine e_getr 21 dX2_raise_18 lf_X2_11 rfl rfl hL.k0 hL.l0 hL.r0 ?_
      refine e_iload_n 22 dX2_raise_21 rfl rfl ?_
      refine e_aald 23 dX2_raise_22 rfl hL.k1 hL.l1 rfl (hL.n1 hp) (hL.sh hp) ?_
      refine e_iload 25 dX2_raise_23 rfl rfl ?_
      refine e_iald 26 dX2_raise_25 rfl (hL.ks hp) (hL.ls hp) rfl (hL.na hp (by omega)) (hg age h10 (by omega)) ?_
      refine e_iload 28 dX2_raise_26 rfl rfl ?_
      refine e_mmaxN 31 dX2_raise_28 lmm_X2_136 rfl (Nat.le_of_ble_eq_true rfl) (Nat.le_of_ble_eq_true rfl) (Nat.le_refl _) (Nat.le_refl _) (by have := hle age h10 (by omega); omega) (by omega) ?_
      refine e_iast 32 dX2_raise_31 rfl (hL.ks hp) (hL.ls hp) rfl (hL.na hp (by omega)) ?_
      refine e_iinc 35 dX2_raise_32 rfl (by decide) rfl (z_inc hii_1) (zst1_5 rfl) ?_
      refine e_goto 3 dX2_raise_35 (by decide) ?_
      refine ih (age + 1) (fun a => if a = age then zMaxF v (g a) else g a) _ (by omega) (by omega) ?_ (zRow_step (F := zMaxF v) (age := age) hg) (fun mi' h1 h2 => hQ mi' (zOnly.p.trans h1) (zRow_done (F := zMaxF v) (by omega) h2))
      intro a h1 h2
      dsimp only
      split
      · exact (by have := hle a h1 h2; unfold zMaxF; omega)
      · exact hle a h1 h2
set_option maxHeartbeats 4000000 in
set_option maxRecDepth 100000 in
theorem k_X2_raise (G : zG) {L p a1 a2 v : Nat} {g : Nat → Nat} {mi : zFi} {ml : zFl} {mr : zFr} (hL : zLife mr L) (hp : p < 3) (h1a : 10 ≤ a1) (h12 : a1 ≤ a2) (h2a : a2 ≤ 69) (hv : v ≤ 1000) (hle : zLe g) (hg : zRow mi (L + 2 + p) g) : zMet G 1 yX2_raise cX2_raise 6 none [.ref L, .int (nI p), .int (nI a1), .int (nI a2), .int (nI v)] 238 mi ml mr 238 (zPv fun a b c => zOnly (L + 2 + p) mi a ∧ zRow a (L + 2 + p) (zRaise1 a1 a2 v g) ∧ b = ml ∧ c = mr) := by
  refine z_intro ([.ref L, .int (nI p), .int (nI a1), .int (nI a2), .int (nI v), zx]) (by decide) rfl (Nat.le_of_ble_eq_true rfl) ?_
  refine e_iload_n 1 dX2_raise_0 rfl rfl ?_
  refine e_istore 3 dX2_raise_1 rfl (by decide) (zst1_5 rfl) ?_
  exact l_X2_raise G _ _ hL hp h2a hv (a2 + 1 - a1) a1 g mi h1a (by omega) hle hg (fun mi' h1 h2 => ⟨rfl, h1, h2, rfl, rfl⟩)


/-- what is read so far: the draft, law told, start told -/
abbrev zRd : Type := zLd × Nat × Nat
def zFin (t : zTx) (b : Nat) (s : zRd) : Except Nat (zRd × Nat) := if zTkK t b = 2 then .ok (s, zTkE t b) else .error (zTkA t b)
def zNeed (t : zTx) (lo hi b : Nat) (k : Nat → Except Nat (zRd × Nat)) : Except Nat (zRd × Nat) := if zTkK t b = 3 ∧ lo ≤ zTkN t b ∧ zTkN t b < hi then k (zTkN t b) else .error (zTkA t b)
def zItPlace (t : zTx) (s : zRd) (a e : Nat) : Except Nat (zRd × Nat) := if s.1 0 0 < 3 then zFin t e (zSetF s.1 0 (s.1 0 0 + 1), s.2) else .error a
def zItNear (t : zTx) (s : zRd) (e : Nat) : Except Nat (zRd × Nat) := zNeed t 0 (s.1 0 0) e fun x =>
  if (zTkK t (zTkE t e) = 3 ∧ 0 ≤ zTkN t (zTkE t e) ∧ zTkN t (zTkE t e) < s.1 0 0) ∧ ¬ zTkN t (zTkE t e) = x then zNeed t 0 10 (zTkE t (zTkE t e)) fun v => zFin t (zTkE t (zTkE t (zTkE t e))) (zSetN s.1 x (zTkN t (zTkE t e)) v, s.2) else .error (zTkA t (zTkE t e))
def zItLaw (t : zTx) (s : zRd) (a e : Nat) : Except Nat (zRd × Nat) := if s.2.1 = 0 then zNeed t 0 10 e fun x => zNeed t 0 10 (zTkE t e) fun y => zNeed t 0 10 (zTkE t (zTkE t e)) fun z => zFin t (zTkE t (zTkE t (zTkE t e))) (zSetF (zSetF (zSetF s.1 2 x) 3 y) 4 z, 1, s.2.2) else .error a
def zItStart (t : zTx) (s : zRd) (a e : Nat) : Except Nat (zRd × Nat) := if s.2.2 = 0 then zNeed t 1 100 e fun x => zFin t (zTkE t e) (zSetF s.1 5 x, s.2.1, 1) else .error a
/-- where the token stands that ends a word: behind plain, if that is told -/
def zPlB (t : zTx) (b : Nat) : Nat := if zSpB t (zTkA t b) (zTkE t b) 5 = true then zTkE t b else b
def zPlV (t : zTx) (b : Nat) : Nat := if zSpB t (zTkA t b) (zTkE t b) 5 = true then 1 else 0
def zItWord (t : zTx) (s : zRd) (a e : Nat) : Except Nat (zRd × Nat) := if s.1 0 1 < 5 then zNeed t 0 4 e fun x => zNeed t 0 91 (zTkE t e) fun y => zNeed t 0 (s.1 0 0) (zTkE t (zTkE t e)) fun g => zFin t (zPlB t (zTkE t (zTkE t (zTkE t e)))) (zAddW s.1 x y g (zPlV t (zTkE t (zTkE t (zTkE t e)))), s.2) else .error a
/-- the item whose first token begins at b -/
def zItem (t : zTx) (s : zRd) (b : Nat) : Except Nat (zRd × Nat) :=
  if zSpB t (zTkA t b) (zTkE t b) 0 = true then zItPlace t s (zTkA t b) (zTkE t b)
  else if zSpB t (zTkA t b) (zTkE t b) 1 = true then zItNear t s (zTkE t b)
  else if zSpB t (zTkA t b) (zTkE t b) 2 = true then zItLaw t s (zTkA t b) (zTkE t b)
  else if zSpB t (zTkA t b) (zTkE t b) 3 = true then zItStart t s (zTkA t b) (zTkE t b)
  else if zSpB t (zTkA t b) (zTkE t b) 4 = true then zItWord t s (zTkA t b) (zTkE t b)
  else .error (zTkA t b)
theorem zNeed_y {t : zTx} {lo hi b : Nat} {k : Nat → Except Nat (zRd × Nat)} (h : zTkK t b = 3 ∧ lo ≤ zTkN t b ∧ zTkN t b < hi) : zNeed t lo hi b k = k (zTkN t b) := if_pos h
theorem zNeed_n {t : zTx} {lo hi b : Nat} {k : Nat → Except Nat (zRd × Nat)} (h : ¬ (zTkK t b = 3 ∧ lo ≤ zTkN t b ∧ zTkN t b < hi)) : zNeed t lo hi b k = .error (zTkA t b) := if_neg h
/-- the cells of a draft, what is told; the reader stands behind b -/
def zSt9 (mi : zFi) (t : zTx) (E : Nat) (s : zRd) (b : Nat) : Prop := zXt mi t ∧ (zLandR mi E s.1 ∧ mi 1 6 = nI s.2.1 ∧ mi 1 7 = nI s.2.2) ∧ mi 1 4 = nI b ∧ b ≤ t.1
def zRdW (s : zRd) : Prop := zLandW s.1 ∧ s.2.1 ≤ 1 ∧ s.2.2 ≤ 1
def zFrE (E : Nat) (u s : zFi) : Prop := (∀ q, q ≠ 1 → (q < E ∨ E + 6 ≤ q) → u q = s q) ∧ u 1 1 = s 1 1
theorem zFrE.r {E : Nat} (s : zFi) : zFrE E s s := ⟨fun _ _ _ => rfl, rfl⟩
theorem zFrE.t {E : Nat} {u v s : zFi} (h1 : zFrE E u v) (h2 : zFrE E v s) : zFrE E u s := ⟨fun q a b => (h1.1 q a b).trans (h2.1 q a b), h1.2.trans h2.2⟩
theorem zFq.E {E : Nat} {u s : zFi} (h : zFq zJ25 u s) : zFrE E u s := ⟨fun q a _ => h.1 q a, h.2 1 (zJ25_n (by omega))⟩
theorem zFrE.p {E k : Nat} {u : zFi} {v : Int32} (hE : 88 ≤ E) : zFrE E (zp u E k v) u := ⟨fun q a b => zp_r _ _ _ (by omega), by rw [zp_r _ _ _ (by omega)]⟩
theorem zFrE.p1 {E k : Nat} {u : zFi} {v : Int32} (hk : k ≠ 1) : zFrE E (zp u 1 k v) u := ⟨fun q a b => zp_r _ _ _ a, zp_k _ _ (Ne.symm hk)⟩
theorem zFrE.l {E : Nat} {u s : zFi} (hE : 88 ≤ E) (h : ∀ q, q < E ∨ E + 6 ≤ q → u q = s q) : zFrE E u s := ⟨fun q _ b => h q b, by rw [h 1 (by omega)]⟩
theorem zSt9.q {mi u : zFi} {t : zTx} {E b : Nat} {s : zRd} (hE : 88 ≤ E) (h : zSt9 mi t E s b) (r : zTkR u t b) (f : zFq zJ25 u mi) : zSt9 u t E s (zTkE t b) := ⟨f.x (zJ25_n (by omega)) h.1, ⟨h.2.1.1.congr (fun j hj => f.1 _ (by omega)), (f.2 6 (zJ25_n (by omega))).trans h.2.1.2.1, (f.2 7 (zJ25_n (by omega))).trans h.2.1.2.2⟩, r.2.2.1, (zTk_b h.2.2.2).2.2.2.1⟩
theorem zSt9.l {mi u : zFi} {t : zTx} {E b : Nat} {s : zRd} {Λ : zLd} (hE : 88 ≤ E) (h : zSt9 mi t E s b) (hl : zLandR u E Λ) (hf : ∀ q, q < E ∨ E + 6 ≤ q → u q = mi q) : zSt9 u t E (Λ, s.2) b := ⟨⟨by rw [hf 1 (by omega)]; exact h.1.1, fun k hk => by rw [hf 2 (by omega)]; exact h.1.2 k hk⟩, ⟨hl, by rw [hf 1 (by omega)]; exact h.2.1.2.1, by rw [hf 1 (by omega)]; exact h.2.1.2.2⟩, by rw [hf 1 (by omega)]; exact h.2.2.1, h.2.2.2⟩
theorem zSt9.f {mi : zFi} {t : zTx} {E b k v : Nat} {s : zRd} (hE : 88 ≤ E) (hk : k ≠ 1) (h : zSt9 mi t E s b) : zSt9 (zp mi E k (nI v)) t E (zSetF s.1 k v, s.2) b := h.l hE (zSetF_R h.2.1.1 hk) (fun q hq => zp_r _ _ _ (by omega))
theorem zSt9.t6 {mi : zFi} {t : zTx} {E b : Nat} {s : zRd} (hE : 88 ≤ E) (h : zSt9 mi t E s b) : zSt9 (zp mi 1 6 (nI 1)) t E (s.1, 1, s.2.2) b := ⟨⟨(zp_k _ _ (by decide)).trans h.1.1, fun k hk => by rw [zp_r _ _ _ (by decide)]; exact h.1.2 k hk⟩, ⟨h.2.1.1.congr (fun j hj => zp_r _ _ _ (by omega)), zp_s _ _ _ _, (zp_k _ _ (by decide)).trans h.2.1.2.2⟩, (zp_k _ _ (by decide)).trans h.2.2.1, h.2.2.2⟩
theorem zSt9.t7 {mi : zFi} {t : zTx} {E b : Nat} {s : zRd} (hE : 88 ≤ E) (h : zSt9 mi t E s b) : zSt9 (zp mi 1 7 (nI 1)) t E (s.1, s.2.1, 1) b := ⟨⟨(zp_k _ _ (by decide)).trans h.1.1, fun k hk => by rw [zp_r _ _ _ (by decide)]; exact h.1.2 k hk⟩, ⟨h.2.1.1.congr (fun j hj => zp_r _ _ _ (by omega)), (zp_k _ _ (by decide)).trans h.2.1.2.1, zp_s _ _ _ _⟩, (zp_k _ _ (by decide)).trans h.2.2.1, h.2.2.2⟩
def zOk (x : Int32) (u : zFi) (t : zTx) (E : Nat) : Except Nat (zRd × Nat) → Prop
  | .ok y => x = nI 1 ∧ zSt9 u t E y.1 y.2
  | .error p => x = nI 0 ∧ u 1 3 = nI p
theorem zFin_ok {mi u : zFi} {t : zTx} {E b : Nat} {s : zRd} (hE : 88 ≤ E) (h : zSt9 mi t E s b) (r : zTkR u t b) (f : zFq zJ25 u mi) : zOk (zB (zTkK t b = 2) inferInstance) u t E (zFin t b s) := by
  unfold zFin zB
  by_cases q : zTkK t b = 2
  · rw [if_pos q, if_pos q]; exact ⟨rfl, h.q hE r f⟩
  · rw [if_neg q, if_neg q]; exact ⟨rfl, r.2.1⟩
theorem zHc {lo hi : Nat} (h1 : lo < 2 ^ 31) (h2 : hi < 2 ^ 31) : ∀ n, n ≤ 99 → ((nI lo ≤ nI n ∧ nI n ≤ nI hi) ↔ lo ≤ n ∧ n < hi + 1) := fun n hn => by rw [nI_leI h1 (by omega), nI_leI (by omega) h2]; omega
theorem zHp {P : Nat} (h : P ≤ 3) : ∀ n, n ≤ 99 → ((nI 0 ≤ nI n ∧ nI n ≤ nI P - nI 1) ↔ 0 ≤ n ∧ n < P) := fun n hn => by rw [vN_le (by omega), vN_nI (by omega)]; omega
theorem zVal_ok {u : zFi} {t : zTx} {b : Nat} (r : zTkR u t b) (h : zTkK t b = 3) : u 1 5 = nI (zTkN t b) := (r.2.2.2 h).trans (zTkN_ok h).1
set_option maxHeartbeats 4000000 in
set_option maxRecDepth 100000 in
theorem k_X4_readPlace (G : zG) {D E : Nat} {t : zTx} {mi : zFi} {ml : zFl} {mr : zFr} (hr : zRf mr D E) (htw : zTxW t) {s : zRd} {a e : Nat} (h : zSt9 mi t E s e) (hw : zRdW s) (h3 : mi 1 3 = nI a) : zMet G 4 yX4_readPlace cX4_readPlace 2 (some .boolean) [.ref 1, .ref E] 238 mi ml mr 238 (zPi fun x u b c => zOk x u t E (zItPlace t s a e) ∧ zFrE E u mi ∧ b = ml ∧ c = mr) := by
  have hE := hr.El.1
  have hP3 := hw.1.1.1
  refine z_intro ([.ref 1, .ref E]) (by decide) rfl (Nat.le_of_ble_eq_true rfl) ?_
  refine e_aload_n 1 dX4_readPlace_0 rfl rfl ?_
  refine e_geti 4 dX4_readPlace_1 lf_X4_78 rfl rfl hr.dE.k0 hr.dE.l0 h.2.1.1.f0 ?_
  refine e_iconst 5 hic_3 dX4_readPlace_4 rfl ?_
  refine e_icmp_geN 15 8 dX4_readPlace_5 (by decide) rfl (by omega) (by omega) (fun h5 => ?_) (fun h5 => ?_)
  · refine e_iconst 16 hic_0 dX4_readPlace_15 rfl ?_
    refine e_ireturn .boolean dX4_readPlace_16 rfl rfl ?_
    first
      | exact ⟨_, rfl, by unfold zItPlace; rw [if_neg (by omega)]; exact ⟨rfl, h3⟩, zFrE.r mi, rfl, rfl⟩
      | exact ⟨_, rfl, by unfold zItPlace zFin; rw [if_pos h5, if_neg h12]; exact ⟨rfl, r1.2.1⟩, g1, rfl, rfl⟩
  · refine e_aload_n 9 dX4_readPlace_8 rfl rfl ?_
    refine c_Vi 12 (ci := 4) dX4_readPlace_9 (k_X4_nextEnds G hr htw h.1 h.2.2.1 h.2.2.2) lm_X4_81 zi_yX4_nextEnds zs_yX4_nextEnds rfl rfl (by decide) rfl rfl rfl (Nat.le_of_ble_eq_true rfl) (Nat.le_of_ble_eq_true rfl) (Nat.le_of_ble_eq_true rfl) (by exact Nat.le_refl _) (by exact Nat.le_refl _) ?_
    rintro x1 u1 _ _ ⟨rfl, r1, f1, rfl, rfl⟩
    have g1 : zFrE E u1 mi := f1.E
    refine e_if_ne 17 15 dX4_readPlace_12 (by decide) rfl (fun h12 => ?_) (fun h12 => ?_)
    · have h12 := zB_1 h12
      refine e_aload_n 18 dX4_readPlace_17 rfl rfl ?_
      refine e_dup 19 dX4_readPlace_18 rfl rfl ?_
      refine e_geti 22 dX4_readPlace_19 lf_X4_78 rfl rfl hr.dE.k0 hr.dE.l0 (h.q hE r1 f1).2.1.1.f0 ?_
      refine e_iconst 23 hic_1 dX4_readPlace_22 rfl ?_
      first | refine e_iaddN 24 dX4_readPlace_23 rfl ?_ | refine e_iadd 24 dX4_readPlace_23 rfl ?_
      refine e_puti 27 dX4_readPlace_24 lf_X4_78 rfl rfl rfl rfl hr.dE.k0 hr.dE.l0 ?_
      refine e_iconst 28 hic_1 dX4_readPlace_27 rfl ?_
      refine e_ireturn .boolean dX4_readPlace_28 rfl rfl ?_
      exact ⟨_, rfl, by unfold zItPlace zFin; rw [if_pos h5, if_pos h12]; exact ⟨rfl, (h.q hE r1 f1).f hE (by decide)⟩, (zFrE.p hE).t g1, rfl, rfl⟩
    · have h12 := zB_0 h12
      refine e_iconst 16 hic_0 dX4_readPlace_15 rfl ?_
      refine e_ireturn .boolean dX4_readPlace_16 rfl rfl ?_
      first
        | exact ⟨_, rfl, by unfold zItPlace; rw [if_neg (by omega)]; exact ⟨rfl, h3⟩, zFrE.r mi, rfl, rfl⟩
        | exact ⟨_, rfl, by unfold zItPlace zFin; rw [if_pos h5, if_neg h12]; exact ⟨rfl, r1.2.1⟩, g1, rfl, rfl⟩

set_option maxHeartbeats 4000000 in
set_option maxRecDepth 100000 in
theorem k_X4_readNear (G : zG) {D E : Nat} {t : zTx} {mi : zFi} {ml : zFl} {mr : zFr} (hr : zRf mr D E) (htw : zTxW t) {s : zRd} {a e : Nat} (h : zSt9 mi t E s e) (hw : zRdW s) (h3 : mi 1 3 = nI a) : zMet G 4 yX4_readNear cX4_readNear 4 (some .boolean) [.ref 1, .ref E] 238 mi ml mr 238 (zPi fun x u b c => zOk x u t E (zItNear t s e) ∧ zFrE E u mi ∧ b = ml ∧ c = mr) := by
  have hE := hr.El.1
  have hP3 := hw.1.1.1
  refine z_intro ([.ref 1, .ref E, zx, zx]) (by decide) rfl (Nat.le_of_ble_eq_true rfl) ?_
  refine e_aload_n 1 dX4_readNear_0 rfl rfl ?_
  refine e_iconst 2 hic_0 dX4_readNear_1 rfl ?_
  refine e_aload_n 3 dX4_readNear_2 rfl rfl ?_
  refine e_geti 6 dX4_readNear_3 lf_X4_78 rfl rfl hr.dE.k0 hr.dE.l0 h.2.1.1.f0 ?_
  refine e_iconst 7 hic_1 dX4_readNear_6 rfl ?_
  refine e_isub 8 dX4_readNear_7 rfl ?_
  refine c_Vi 11 (ci := 4) dX4_readNear_8 (k_X4_nextIsNumber G hr htw h.1 h.2.2.1 h.2.2.2 (zHp hP3)) lm_X4_85 zi_yX4_nextIsNumber zs_yX4_nextIsNumber rfl rfl (by decide) rfl rfl rfl (Nat.le_of_ble_eq_true rfl) (Nat.le_of_ble_eq_true rfl) (Nat.le_of_ble_eq_true rfl) (by exact Nat.le_refl _) (by exact Nat.le_refl _) ?_
  rintro x1 u1 _ _ ⟨rfl, r1, f1, rfl, rfl⟩
  have q1 := h.q hE r1 f1
  have g1 : zFrE E u1 mi := f1.E
  refine e_if_ne 16 14 dX4_readNear_11 (by decide) rfl (fun h11 => ?_) (fun h11 => ?_)
  · have h11 := zB_1 h11
    refine e_aload_n 17 dX4_readNear_16 rfl rfl ?_
    refine e_geti 20 dX4_readNear_17 lf_X4_89 rfl rfl rfl (by decide) (zVal_ok r1 h11.1) ?_
    refine e_istore_n 21 dX4_readNear_20 rfl (by decide) (zst1_2 rfl) ?_
    refine e_aload_n 22 dX4_readNear_21 rfl rfl ?_
    refine e_iconst 23 hic_0 dX4_readNear_22 rfl ?_
    refine e_aload_n 24 dX4_readNear_23 rfl rfl ?_
    refine e_geti 27 dX4_readNear_24 lf_X4_78 rfl rfl hr.dE.k0 hr.dE.l0 q1.2.1.1.f0 ?_
    refine e_iconst 28 hic_1 dX4_readNear_27 rfl ?_
    refine e_isub 29 dX4_readNear_28 rfl ?_
    refine c_Vi 32 (ci := 4) dX4_readNear_29 (k_X4_nextIsNumber G hr htw q1.1 q1.2.2.1 q1.2.2.2 (zHp hP3)) lm_X4_85 zi_yX4_nextIsNumber zs_yX4_nextIsNumber rfl rfl (by decide) rfl rfl rfl (Nat.le_of_ble_eq_true rfl) (Nat.le_of_ble_eq_true rfl) (Nat.le_of_ble_eq_true rfl) (by exact Nat.le_refl _) (by exact Nat.le_refl _) ?_
    rintro x2 u2 _ _ ⟨rfl, r2, f2, rfl, rfl⟩
    have q2 := q1.q hE r2 f2
    have g2 : zFrE E u2 mi := f2.E.t g1
    refine e_if_eq 43 35 dX4_readNear_32 (by decide) rfl (fun h32 => ?_) (fun h32 => ?_)
    · have h32 := zB_0 h32
      refine e_iconst 44 hic_0 dX4_readNear_43 rfl ?_
      refine e_ireturn .boolean dX4_readNear_44 rfl rfl ?_
      first
        | exact ⟨_, rfl, by unfold zItNear; rw [zNeed_y h11, if_neg (fun z => h32 z.1)]; exact ⟨rfl, r2.2.1⟩, g2, rfl, rfl⟩
        | exact ⟨_, rfl, by unfold zItNear; rw [zNeed_y h11, if_neg (fun z => z.2 h40)]; exact ⟨rfl, r2.2.1⟩, g2, rfl, rfl⟩
    · have h32 := zB_1 h32
      have v1 := (zTkN_ok h11.1).2
      have v2 := (zTkN_ok h32.1).2
      refine e_aload_n 36 dX4_readNear_35 rfl rfl ?_
      refine e_geti 39 dX4_readNear_36 lf_X4_89 rfl rfl rfl (by decide) (zVal_ok r2 h32.1) ?_
      refine e_iload_n 40 dX4_readNear_39 rfl rfl ?_
      refine e_icmp_neN 45 43 dX4_readNear_40 (by decide) rfl (by omega) (by omega) (fun h40 => ?_) (fun h40 => ?_)
      · refine e_aload_n 46 dX4_readNear_45 rfl rfl ?_
        refine e_geti 49 dX4_readNear_46 lf_X4_89 rfl rfl rfl (by decide) (zVal_ok r2 h32.1) ?_
        refine e_istore_n 50 dX4_readNear_49 rfl (by decide) (zst1_3 rfl) ?_
        refine e_aload_n 51 dX4_readNear_50 rfl rfl ?_
        refine e_iconst 52 hic_0 dX4_readNear_51 rfl ?_
        refine e_bipush 54 hbi_9 dX4_readNear_52 rfl ?_
        refine c_Vi 57 (ci := 4) dX4_readNear_54 (k_X4_nextIsNumber G hr htw q2.1 q2.2.2.1 q2.2.2.2 (zHc (hi := 9) (by decide) (by decide))) lm_X4_85 zi_yX4_nextIsNumber zs_yX4_nextIsNumber rfl rfl (by decide) rfl rfl rfl (Nat.le_of_ble_eq_true rfl) (Nat.le_of_ble_eq_true rfl) (Nat.le_of_ble_eq_true rfl) (by exact Nat.le_refl _) (by exact Nat.le_refl _) ?_
        rintro x3 u3 _ _ ⟨rfl, r3, f3, rfl, rfl⟩
        have q3 := q2.q hE r3 f3
        have g3 : zFrE E u3 mi := f3.E.t g2
        refine e_if_ne 62 60 dX4_readNear_57 (by decide) rfl (fun h57 => ?_) (fun h57 => ?_)
        · have h57 := zB_1 h57
          refine e_aload_n 63 dX4_readNear_62 rfl rfl ?_
          refine e_iload_n 64 dX4_readNear_63 rfl rfl ?_
          refine e_iload_n 65 dX4_readNear_64 rfl rfl ?_
          refine e_aload_n 66 dX4_readNear_65 rfl rfl ?_
          refine e_geti 69 dX4_readNear_66 lf_X4_89 rfl rfl rfl (by decide) (zVal_ok r3 h57.1) ?_
          refine c_Vv 72 (ci := 0) dX4_readNear_69 (k_X0_bringNear G hr.dE q3.2.1.1 (by omega) (by omega)) lm_X4_92 zi_yX0_bringNear zs_yX0_bringNear rfl hr.dE.k0 hr.dE.l0 rfl rfl rfl (Nat.le_of_ble_eq_true rfl) (Nat.le_of_ble_eq_true rfl) (Nat.le_of_ble_eq_true rfl) (by exact Nat.le_refl _) (by exact Nat.le_refl _) ?_
          rintro u4 _ _ ⟨l4, o4, rfl, rfl⟩
          have q4 := q3.l hE l4 o4
          have g4 : zFrE E u4 mi := (zFrE.l hE o4).t g3
          refine e_aload_n 73 dX4_readNear_72 rfl rfl ?_
          refine c_Vi 76 (ci := 4) dX4_readNear_73 (k_X4_nextEnds G hr htw q4.1 q4.2.2.1 q4.2.2.2) lm_X4_81 zi_yX4_nextEnds zs_yX4_nextEnds rfl rfl (by decide) rfl rfl rfl (Nat.le_of_ble_eq_true rfl) (Nat.le_of_ble_eq_true rfl) (Nat.le_of_ble_eq_true rfl) (by exact Nat.le_refl _) (by exact Nat.le_refl _) ?_
          rintro x5 u5 _ _ ⟨rfl, r5, f5, rfl, rfl⟩
          have g5 : zFrE E u5 mi := f5.E.t g4
          refine e_ireturn .boolean dX4_readNear_76 rfl zB_nar ?_
          exact ⟨_, rfl, by unfold zItNear; rw [zNeed_y h11, if_pos ⟨h32, h40⟩, zNeed_y h57]; exact zFin_ok hE q4 r5 f5, g5, rfl, rfl⟩
        · have h57 := zB_0 h57
          refine e_iconst 61 hic_0 dX4_readNear_60 rfl ?_
          refine e_ireturn .boolean dX4_readNear_61 rfl rfl ?_
          exact ⟨_, rfl, by unfold zItNear; rw [zNeed_y h11, if_pos ⟨h32, h40⟩, zNeed_n h57]; exact ⟨rfl, r3.2.1⟩, g3, rfl, rfl⟩
      · refine e_iconst 44 hic_0 dX4_readNear_43 rfl ?_
        refine e_ireturn .boolean dX4_readNear_44 rfl rfl ?_
        first
          | exact ⟨_, rfl, by unfold zItNear; rw [zNeed_y h11, if_neg (fun z => h32 z.1)]; exact ⟨rfl, r2.2.1⟩, g2, rfl, rfl⟩
          | exact ⟨_, rfl, by unfold zItNear; rw [zNeed_y h11, if_neg (fun z => z.2 h40)]; exact ⟨rfl, r2.2.1⟩, g2, rfl, rfl⟩
  · have h11 := zB_0 h11
    refine e_iconst 15 hic_0 dX4_readNear_14 rfl ?_
    refine e_ireturn .boolean dX4_readNear_15 rfl rfl ?_
    exact ⟨_, rfl, by unfold zItNear; rw [zNeed_n h11]; exact ⟨rfl, r1.2.1⟩, g1, rfl, rfl⟩

set_option maxHeartbeats 4000000 in
set_option maxRecDepth 100000 in
theorem k_X4_readLaw (G : zG) {D E : Nat} {t : zTx} {mi : zFi} {ml : zFl} {mr : zFr} (hr : zRf mr D E) (htw : zTxW t) {s : zRd} {a e : Nat} (h : zSt9 mi t E s e) (hw : zRdW s) (h3 : mi 1 3 = nI a) : zMet G 4 yX4_readLaw cX4_readLaw 2 (some .boolean) [.ref 1, .ref E] 238 mi ml mr 238 (zPi fun x u b c => zOk x u t E (zItLaw t s a e) ∧ zFrE E u mi ∧ b = ml ∧ c = mr) := by
  have hE := hr.El.1
  have hP3 := hw.1.1.1
  refine z_intro ([.ref 1, .ref E]) (by decide) rfl (Nat.le_of_ble_eq_true rfl) ?_
  refine e_aload_n 1 dX4_readLaw_0 rfl rfl ?_
  refine e_geti 4 dX4_readLaw_1 lf_X4_26 rfl rfl rfl (by decide) h.2.1.2.1 ?_
  refine e_if_neN 17 7 dX4_readLaw_4 (by decide) rfl (by have := hw.2.1; omega) (fun h4 => ?_) (fun h4 => ?_)
  · refine e_iconst 18 hic_0 dX4_readLaw_17 rfl ?_
    refine e_ireturn .boolean dX4_readLaw_18 rfl rfl ?_
    first
      | exact ⟨_, rfl, by unfold zItLaw; rw [if_neg (by omega)]; exact ⟨rfl, h3⟩, zFrE.r mi, rfl, rfl⟩
      | exact ⟨_, rfl, by unfold zItLaw; rw [if_pos (by omega), zNeed_n h14]; exact ⟨rfl, r1.2.1⟩, g1, rfl, rfl⟩
  · refine e_aload_n 8 dX4_readLaw_7 rfl rfl ?_
    refine e_iconst 9 hic_0 dX4_readLaw_8 rfl ?_
    refine e_bipush 11 hbi_9 dX4_readLaw_9 rfl ?_
    refine c_Vi 14 (ci := 4) dX4_readLaw_11 (k_X4_nextIsNumber G hr htw h.1 h.2.2.1 h.2.2.2 (zHc (hi := 9) (by decide) (by decide))) lm_X4_85 zi_yX4_nextIsNumber zs_yX4_nextIsNumber rfl rfl (by decide) rfl rfl rfl (Nat.le_of_ble_eq_true rfl) (Nat.le_of_ble_eq_true rfl) (Nat.le_of_ble_eq_true rfl) (by exact Nat.le_refl _) (by exact Nat.le_refl _) ?_
    rintro x1 u1 _ _ ⟨rfl, r1, f1, rfl, rfl⟩
    have q1 := h.q hE r1 f1
    have g1 : zFrE E u1 mi := f1.E
    refine e_if_ne 19 17 dX4_readLaw_14 (by decide) rfl (fun h14 => ?_) (fun h14 => ?_)
    · have h14 := zB_1 h14
      refine e_aload_n 20 dX4_readLaw_19 rfl rfl ?_
      refine e_aload_n 21 dX4_readLaw_20 rfl rfl ?_
      refine e_geti 24 dX4_readLaw_21 lf_X4_89 rfl rfl rfl (by decide) (zVal_ok r1 h14.1) ?_
      refine e_puti 27 dX4_readLaw_24 lf_X4_96 rfl rfl rfl rfl hr.dE.k0 hr.dE.l0 ?_
      have p1 := q1.f (k := 2) (v := zTkN t e) hE (by decide)
      have j1 : zFrE E (zp u1 E 2 (nI (zTkN t e))) mi := (zFrE.p hE).t g1
      refine e_aload_n 28 dX4_readLaw_27 rfl rfl ?_
      refine e_iconst 29 hic_0 dX4_readLaw_28 rfl ?_
      refine e_bipush 31 hbi_9 dX4_readLaw_29 rfl ?_
      refine c_Vi 34 (ci := 4) dX4_readLaw_31 (k_X4_nextIsNumber G hr htw p1.1 p1.2.2.1 p1.2.2.2 (zHc (hi := 9) (by decide) (by decide))) lm_X4_85 zi_yX4_nextIsNumber zs_yX4_nextIsNumber rfl rfl (by decide) rfl rfl rfl (Nat.le_of_ble_eq_true rfl) (Nat.le_of_ble_eq_true rfl) (Nat.le_of_ble_eq_true rfl) (by exact Nat.le_refl _) (by exact Nat.le_refl _) ?_
      rintro x2 u2 _ _ ⟨rfl, r2, f2, rfl, rfl⟩
      have q2 := p1.q hE r2 f2
      have g2 : zFrE E u2 mi := f2.E.t j1
      refine e_if_ne 39 37 dX4_readLaw_34 (by decide) rfl (fun h34 => ?_) (fun h34 => ?_)
      · have h34 := zB_1 h34
        refine e_aload_n 40 dX4_readLaw_39 rfl rfl ?_
        refine e_aload_n 41 dX4_readLaw_40 rfl rfl ?_
        refine e_geti 44 dX4_readLaw_41 lf_X4_89 rfl rfl rfl (by decide) (zVal_ok r2 h34.1) ?_
        refine e_puti 47 dX4_readLaw_44 lf_X4_99 rfl rfl rfl rfl hr.dE.k0 hr.dE.l0 ?_
        have p2 := q2.f (k := 3) (v := zTkN t (zTkE t e)) hE (by decide)
        have j2 : zFrE E (zp u2 E 3 (nI (zTkN t (zTkE t e)))) mi := (zFrE.p hE).t g2
        refine e_aload_n 48 dX4_readLaw_47 rfl rfl ?_
        refine e_iconst 49 hic_0 dX4_readLaw_48 rfl ?_
        refine e_bipush 51 hbi_9 dX4_readLaw_49 rfl ?_
        refine c_Vi 54 (ci := 4) dX4_readLaw_51 (k_X4_nextIsNumber G hr htw p2.1 p2.2.2.1 p2.2.2.2 (zHc (hi := 9) (by decide) (by decide))) lm_X4_85 zi_yX4_nextIsNumber zs_yX4_nextIsNumber rfl rfl (by decide) rfl rfl rfl (Nat.le_of_ble_eq_true rfl) (Nat.le_of_ble_eq_true rfl) (Nat.le_of_ble_eq_true rfl) (by exact Nat.le_refl _) (by exact Nat.le_refl _) ?_
        rintro x3 u3 _ _ ⟨rfl, r3, f3, rfl, rfl⟩
        have q3 := p2.q hE r3 f3
        have g3 : zFrE E u3 mi := f3.E.t j2
        refine e_if_ne 59 57 dX4_readLaw_54 (by decide) rfl (fun h54 => ?_) (fun h54 => ?_)
        · have h54 := zB_1 h54
          refine e_aload_n 60 dX4_readLaw_59 rfl rfl ?_
          refine e_aload_n 61 dX4_readLaw_60 rfl rfl ?_
          refine e_geti 64 dX4_readLaw_61 lf_X4_89 rfl rfl rfl (by decide) (zVal_ok r3 h54.1) ?_
          refine e_puti 67 dX4_readLaw_64 lf_X4_102 rfl rfl rfl rfl hr.dE.k0 hr.dE.l0 ?_
          have p3 := q3.f (k := 4) (v := zTkN t (zTkE t (zTkE t e))) hE (by decide)
          have j3 : zFrE E (zp u3 E 4 (nI (zTkN t (zTkE t (zTkE t e))))) mi := (zFrE.p hE).t g3
          refine e_aload_n 68 dX4_readLaw_67 rfl rfl ?_
          refine e_iconst 69 hic_1 dX4_readLaw_68 rfl ?_
          refine e_puti 72 dX4_readLaw_69 lf_X4_26 rfl rfl rfl rfl rfl (by decide) ?_
          have p4 := p3.t6 hE
          have j4 : zFrE E (zp (zp u3 E 4 (nI (zTkN t (zTkE t (zTkE t e))))) 1 6 (nI 1)) mi := (zFrE.p1 (by decide)).t j3
          refine e_aload_n 73 dX4_readLaw_72 rfl rfl ?_
          refine c_Vi 76 (ci := 4) dX4_readLaw_73 (k_X4_nextEnds G hr htw p4.1 p4.2.2.1 p4.2.2.2) lm_X4_81 zi_yX4_nextEnds zs_yX4_nextEnds rfl rfl (by decide) rfl rfl rfl (Nat.le_of_ble_eq_true rfl) (Nat.le_of_ble_eq_true rfl) (Nat.le_of_ble_eq_true rfl) (by exact Nat.le_refl _) (by exact Nat.le_refl _) ?_
          rintro x5 u5 _ _ ⟨rfl, r5, f5, rfl, rfl⟩
          have g5 : zFrE E u5 mi := f5.E.t j4
          refine e_ireturn .boolean dX4_readLaw_76 rfl zB_nar ?_
          exact ⟨_, rfl, by unfold zItLaw; rw [if_pos (by omega), zNeed_y h14, zNeed_y h34, zNeed_y h54]; exact zFin_ok hE p4 r5 f5, g5, rfl, rfl⟩
        · have h54 := zB_0 h54
          refine e_iconst 58 hic_0 dX4_readLaw_57 rfl ?_
          refine e_ireturn .boolean dX4_readLaw_58 rfl rfl ?_
          exact ⟨_, rfl, by unfold zItLaw; rw [if_pos (by omega), zNeed_y h14, zNeed_y h34]; rw [zNeed_n h54]; exact ⟨rfl, r3.2.1⟩, g3, rfl, rfl⟩
      · have h34 := zB_0 h34
        refine e_iconst 38 hic_0 dX4_readLaw_37 rfl ?_
        refine e_ireturn .boolean dX4_readLaw_38 rfl rfl ?_
        exact ⟨_, rfl, by unfold zItLaw; rw [if_pos (by omega), zNeed_y h14]; rw [zNeed_n h34]; exact ⟨rfl, r2.2.1⟩, g2, rfl, rfl⟩
    · have h14 := zB_0 h14
      refine e_iconst 18 hic_0 dX4_readLaw_17 rfl ?_
      refine e_ireturn .boolean dX4_readLaw_18 rfl rfl ?_
      first
        | exact ⟨_, rfl, by unfold zItLaw; rw [if_neg (by omega)]; exact ⟨rfl, h3⟩, zFrE.r mi, rfl, rfl⟩
        | exact ⟨_, rfl, by unfold zItLaw; rw [if_pos (by omega), zNeed_n h14]; exact ⟨rfl, r1.2.1⟩, g1, rfl, rfl⟩

set_option maxHeartbeats 4000000 in
set_option maxRecDepth 100000 in
theorem k_X4_readStart (G : zG) {D E : Nat} {t : zTx} {mi : zFi} {ml : zFl} {mr : zFr} (hr : zRf mr D E) (htw : zTxW t) {s : zRd} {a e : Nat} (h : zSt9 mi t E s e) (hw : zRdW s) (h3 : mi 1 3 = nI a) : zMet G 4 yX4_readStart cX4_readStart 2 (some .boolean) [.ref 1, .ref E] 238 mi ml mr 238 (zPi fun x u b c => zOk x u t E (zItStart t s a e) ∧ zFrE E u mi ∧ b = ml ∧ c = mr) := by
  have hE := hr.El.1
  have hP3 := hw.1.1.1
  refine z_intro ([.ref 1, .ref E]) (by decide) rfl (Nat.le_of_ble_eq_true rfl) ?_
  refine e_aload_n 1 dX4_readStart_0 rfl rfl ?_
  refine e_geti 4 dX4_readStart_1 lf_X4_30 rfl rfl rfl (by decide) h.2.1.2.2 ?_
  refine e_if_neN 17 7 dX4_readStart_4 (by decide) rfl (by have := hw.2.2; omega) (fun h4 => ?_) (fun h4 => ?_)
  · refine e_iconst 18 hic_0 dX4_readStart_17 rfl ?_
    refine e_ireturn .boolean dX4_readStart_18 rfl rfl ?_
    first
      | exact ⟨_, rfl, by unfold zItStart; rw [if_neg (by omega)]; exact ⟨rfl, h3⟩, zFrE.r mi, rfl, rfl⟩
      | exact ⟨_, rfl, by unfold zItStart; rw [if_pos (by omega), zNeed_n h14]; exact ⟨rfl, r1.2.1⟩, g1, rfl, rfl⟩
  · refine e_aload_n 8 dX4_readStart_7 rfl rfl ?_
    refine e_iconst 9 hic_1 dX4_readStart_8 rfl ?_
    refine e_bipush 11 hbi_99 dX4_readStart_9 rfl ?_
    refine c_Vi 14 (ci := 4) dX4_readStart_11 (k_X4_nextIsNumber G hr htw h.1 h.2.2.1 h.2.2.2 (zHc (lo := 1) (hi := 99) (by decide) (by decide))) lm_X4_85 zi_yX4_nextIsNumber zs_yX4_nextIsNumber rfl rfl (by decide) rfl rfl rfl (Nat.le_of_ble_eq_true rfl) (Nat.le_of_ble_eq_true rfl) (Nat.le_of_ble_eq_true rfl) (by exact Nat.le_refl _) (by exact Nat.le_refl _) ?_
    rintro x1 u1 _ _ ⟨rfl, r1, f1, rfl, rfl⟩
    have q1 := h.q hE r1 f1
    have g1 : zFrE E u1 mi := f1.E
    refine e_if_ne 19 17 dX4_readStart_14 (by decide) rfl (fun h14 => ?_) (fun h14 => ?_)
    · have h14 := zB_1 h14
      refine e_aload_n 20 dX4_readStart_19 rfl rfl ?_
      refine e_aload_n 21 dX4_readStart_20 rfl rfl ?_
      refine e_geti 24 dX4_readStart_21 lf_X4_89 rfl rfl rfl (by decide) (zVal_ok r1 h14.1) ?_
      refine e_puti 27 dX4_readStart_24 lf_X4_105 rfl rfl rfl rfl hr.dE.k0 hr.dE.l0 ?_
      have p1 := q1.f (k := 5) (v := zTkN t e) hE (by decide)
      have j1 : zFrE E (zp u1 E 5 (nI (zTkN t e))) mi := (zFrE.p hE).t g1
      refine e_aload_n 28 dX4_readStart_27 rfl rfl ?_
      refine e_iconst 29 hic_1 dX4_readStart_28 rfl ?_
      refine e_puti 32 dX4_readStart_29 lf_X4_30 rfl rfl rfl rfl rfl (by decide) ?_
      have p4 := p1.t7 hE
      have j4 : zFrE E (zp (zp u1 E 5 (nI (zTkN t e))) 1 7 (nI 1)) mi := (zFrE.p1 (by decide)).t j1
      refine e_aload_n 33 dX4_readStart_32 rfl rfl ?_
      refine c_Vi 36 (ci := 4) dX4_readStart_33 (k_X4_nextEnds G hr htw p4.1 p4.2.2.1 p4.2.2.2) lm_X4_81 zi_yX4_nextEnds zs_yX4_nextEnds rfl rfl (by decide) rfl rfl rfl (Nat.le_of_ble_eq_true rfl) (Nat.le_of_ble_eq_true rfl) (Nat.le_of_ble_eq_true rfl) (by exact Nat.le_refl _) (by exact Nat.le_refl _) ?_
      rintro x5 u5 _ _ ⟨rfl, r5, f5, rfl, rfl⟩
      have g5 : zFrE E u5 mi := f5.E.t j4
      refine e_ireturn .boolean dX4_readStart_36 rfl zB_nar ?_
      exact ⟨_, rfl, by unfold zItStart; rw [if_pos (by omega), zNeed_y h14]; exact zFin_ok hE p4 r5 f5, g5, rfl, rfl⟩
    · have h14 := zB_0 h14
      refine e_iconst 18 hic_0 dX4_readStart_17 rfl ?_
      refine e_ireturn .boolean dX4_readStart_18 rfl rfl ?_
      first
        | exact ⟨_, rfl, by unfold zItStart; rw [if_neg (by omega)]; exact ⟨rfl, h3⟩, zFrE.r mi, rfl, rfl⟩
        | exact ⟨_, rfl, by unfold zItStart; rw [if_pos (by omega), zNeed_n h14]; exact ⟨rfl, r1.2.1⟩, g1, rfl, rfl⟩


theorem zSl_rn {n : Nat} (h : n ≤ 238) : zSl n - zSl 0 ≤ room_1.slots := Nat.le_trans (Nat.sub_le _ _) (Nat.le_trans (zSl_le h) zSl_room)
set_option maxHeartbeats 4000000 in
set_option maxRecDepth 100000 in
theorem l_law_start (G : zG) {mn : String} (hG : zad G 3000 = G.2.2.2.2.2.1) (hL : zsL G ≤ 3072) : zE G room_1 lw_Z RL mn cL_law 4 ret 0 0 [.ref 3000, zx, zx, zx] [] 0 (fun _ _ => 0) (fun _ _ => 0) (fun _ _ => none) := by
  refine e_new 3 dL_law_0 zc_7 lx_L_7 lz_X7 ln_X7 rfl rfl (by decide) (Nat.le_of_ble_eq_true rfl) (zSl_rn (by decide)) ?_
  refine e_dup 4 dL_law_3 rfl rfl ?_
  refine e_callI dL_law_4 (k_X7_init G (mi := fun _ _ => 0) (ml := fun _ _ => 0) (mr := fun _ _ => none) (fun _ _ => rfl)) lm_L_9 zi_yX7_init rfl rfl rfl (Nat.le_of_ble_eq_true rfl) (Nat.le_of_ble_eq_true rfl) (Nat.le_of_ble_eq_true rfl) (by omega) (by omega) (Nat.le_of_ble_eq_true rfl) (zSl_rn (by decide)) (fun r9 a9 b9 c9 hq => ?_)
  obtain ⟨rfl, hX, h7, fX, fb, fc⟩ := hq
  refine e_astore_n 8 dL_law_7 rfl (by decide) (zst1_1 rfl) ?_
  refine e_new 11 dL_law_8 zc_8 lx_L_10 lz_X8 ln_X8 rfl rfl (by decide) (Nat.le_of_ble_eq_true rfl) (zSl_rn (by decide)) ?_
  refine e_dup 12 dL_law_11 rfl rfl ?_
  refine e_callI dL_law_12 (k_X8_init G h7 (fun r hr k => congrFun (fX r hr) k) ((congrFun (fb 224 (by decide)) 1).trans rfl)) lm_L_12 zi_yX8_init rfl rfl rfl (Nat.le_of_ble_eq_true rfl) (Nat.le_of_ble_eq_true rfl) (Nat.le_of_ble_eq_true rfl) (by omega) (by omega) (Nat.le_of_ble_eq_true rfl) (zSl_rn (by decide)) (fun r9 a9 b9 c9 hq => ?_)
  obtain ⟨rfl, hY, hr, fY, rfl⟩ := hq
  refine e_astore_n 16 dL_law_15 rfl (by decide) (zst1_2 rfl) ?_
  refine e_iconst 17 hic_0 dL_law_16 rfl ?_
  refine e_istore_n 18 dL_law_17 rfl (by decide) (zst1_3 rfl) ?_
  exact l_law_loop G hG hL (zsL G) 0 _ _ _ (Nat.zero_le _) (by omega) ⟨88, 94, zL0, 2, lN 0, zt0, zm0, zi0, zl0, zr0, hr, hX.fr9 zWf0 (by decide) fY rfl, hY, zWf0⟩
theorem zKnown {s : State} {args : Array Value} (hts : ∀ w ∈ lw_tbl, w.before args s = true) : ∃ (dC : Nat → ClassId) (dI : Nat → Nat → Nat), ∀ (k : Nat) (q : vw_C), vwCl[k]? = some q → u_Kn s q.1 q.2.1 q.2.2 (dC k) (dI k) := by
  have hT : ∀ w ∈ zT, w.before args s = true := fun w hw => hts w (List.mem_filter.mp hw).1
  obtain ⟨c0, i0, h0⟩ := u_known (C := RX0) (T := TX0) (N := 11) (n := 11) hT zc_0.2.2.1 (hT _ lz_X0)
  obtain ⟨c1, i1, h1⟩ := u_known (C := RX1) (T := TX1) (N := 6) (n := 6) hT zc_1.2.2.1 (hT _ lz_X1)
  obtain ⟨c2, i2, h2⟩ := u_known (C := RX2) (T := TX2) (N := 4) (n := 4) hT zc_2.2.2.1 (hT _ lz_X2)
  obtain ⟨c3, i3, h3⟩ := u_known (C := RX3) (T := TX3) (N := 4) (n := 4) hT zc_3.2.2.1 (hT _ lz_X3)
  obtain ⟨c4, i4, h4⟩ := u_known (C := RX4) (T := TX4) (N := 8) (n := 8) hT zc_4.2.2.1 (hT _ lz_X4)
  obtain ⟨c5, i5, h5⟩ := u_known (C := RX5) (T := TX5) (N := 5) (n := 5) hT zc_5.2.2.1 (hT _ lz_X5)
  obtain ⟨c6, i6, h6⟩ := u_known (C := RX6) (T := TX6) (N := 3) (n := 3) hT zc_6.2.2.1 (hT _ lz_X6)
  obtain ⟨c7, i7, h7⟩ := u_known (C := RX7) (T := TX7) (N := 12) (n := 12) hT zc_7.2.2.1 (hT _ lz_X7)
  obtain ⟨c8, i8, h8⟩ := u_known (C := RX8) (T := TX8) (N := 31) (n := 31) hT zc_8.2.2.1 (hT _ lz_X8)
  refine ⟨fun k => if k = 0 then c0 else if k = 1 then c1 else if k = 2 then c2 else if k = 3 then c3 else if k = 4 then c4 else if k = 5 then c5 else if k = 6 then c6 else if k = 7 then c7 else c8, fun k => if k = 0 then i0 else if k = 1 then i1 else if k = 2 then i2 else if k = 3 then i3 else if k = 4 then i4 else if k = 5 then i5 else if k = 6 then i6 else if k = 7 then i7 else i8, fun k q hq => ?_⟩
  match k, hq with
  | 0, hq => cases hq; exact h0
  | 1, hq => cases hq; exact h1
  | 2, hq => cases hq; exact h2
  | 3, hq => cases hq; exact h3
  | 4, hq => cases hq; exact h4
  | 5, hq => cases hq; exact h5
  | 6, hq => cases hq; exact h6
  | 7, hq => cases hq; exact h7
  | 8, hq => cases hq; exact h8
  | k + 9, hq => simp [vwCl] at hq
theorem zAA_spec {U : State} (h : zAA U) : ∃ (c : ClassId) (k : Class) (comp : ClassId), U.vm.findClass ("[" ++ (FieldType.array .int).toString) = some c ∧ U.vm.classes[c]? = some k ∧ k.kind = .array comp (.array .int) := by
  unfold zAA Cond.before Cond.holds at h
  simp only [Cond.value] at h
  cases hc : U.vm.findClass (FieldType.array .int).toString with
  | none => rw [hc] at h; simp at h
  | some comp =>
    rw [hc, Option.bind_some] at h
    cases hi : (U.vm.classes.findIdx? fun (x : Class) => match x.kind with | .array component _ => component == comp | _ => false) with
    | none =>
      have h9 := (congrArg (fun o : Option Nat => (o.bind (fun c => (U.vm.classes[c]?).map fun (k : Class) => match k.kind with | .array _ ty => decide (ty = FieldType.array .int) && decide (U.vm.findClass ("[" ++ (FieldType.array .int).toString) = some c) | _ => false) == some true)) hi).symm.trans h
      simp at h9
    | some c =>
      have h9 : ((some c : Option Nat).bind (fun c => (U.vm.classes[c]?).map fun (k : Class) => match k.kind with | .array _ ty => decide (ty = FieldType.array .int) && decide (U.vm.findClass ("[" ++ (FieldType.array .int).toString) = some c) | _ => false) == some true) = true := by rw [← hi]; exact h
      rw [Option.bind_some] at h9
      cases hk : U.vm.classes[c]? with
      | none => rw [hk] at h9; simp at h9
      | some k =>
        rw [hk] at h9
        cases hkk : k.kind with
        | array comp2 ty =>
          simp [hkk] at h9
          exact ⟨c, k, comp2, h9.2, hk, by rw [hkk, h9.1]⟩
        | _ => simp [hkk] at h9
theorem zArrT {s : State} {cA : ClassId} {ty : FieldType} (h : ∃ (k : Class) (comp : ClassId), s.vm.classes[cA]? = some k ∧ k.kind = .array comp ty) : ArrOfT s cA ty := fun N9 z9 => by
  obtain ⟨k9, cm9, hk9, hkk9⟩ := h
  exact ⟨(fun q hq => by cases hq), k9, hk9, cm9, hkk9⟩
theorem zArrs {s : State} {args : Array Value} (hts : ∀ w ∈ lw_tbl, w.before args s = true) : ∃ cls : Nat → ClassId, ∀ (k : Nat) (q : ClassId × FieldType), ([(cls 0, .int), (cls 1, .char), (cls 2, .boolean), (cls 3, .object RX2), (cls 4, .object RX3), (cls 5, .array .int)] : List (ClassId × FieldType))[k]? = some q → ArrOfT s q.1 q.2 ∧ va_RA s q.1 q.2 := by
  obtain ⟨c0, k0, p0, a0, b0, d0⟩ := Cond.arrayClass_spec (hts (.arrayClass .int) (by decide +kernel))
  obtain ⟨c1, k1, p1, a1, b1, d1⟩ := Cond.arrayClass_spec (hts (.arrayClass .char) (by decide +kernel))
  obtain ⟨c2, k2, p2, a2, b2, d2⟩ := Cond.arrayClass_spec (hts (.arrayClass .boolean) (by decide +kernel))
  obtain ⟨p3, c3, k3, f3, g3, b3, d3, a3⟩ := Cond.arrayOver_spec (hts (.arrayOver (.object RX2)) (by decide +kernel))
  obtain ⟨p4, c4, k4, f4, g4, b4, d4, a4⟩ := Cond.arrayOver_spec (hts (.arrayOver (.object RX3)) (by decide +kernel))
  obtain ⟨c5, k5, p5, a5, b5, d5⟩ := zAA_spec (U := s) (hts (.arrayOver (.array .int)) (by decide +kernel))
  refine ⟨fun k => if k = 0 then c0 else if k = 1 then c1 else if k = 2 then c2 else if k = 3 then c3 else if k = 4 then c4 else c5, fun k q hq => ?_⟩
  match k, hq with
  | 0, hq => cases hq; exact ⟨zArrT ⟨k0, p0, b0, d0⟩, a0⟩
  | 1, hq => cases hq; exact ⟨zArrT ⟨k1, p1, b1, d1⟩, a1⟩
  | 2, hq => cases hq; exact ⟨zArrT ⟨k2, p2, b2, d2⟩, a2⟩
  | 3, hq => cases hq; exact ⟨zArrT ⟨k3, p3, b3, d3⟩, k3, p3, b3, d3, f3, a3⟩
  | 4, hq => cases hq; exact ⟨zArrT ⟨k4, p4, b4, d4⟩, k4, p4, b4, d4, f4, a4⟩
  | 5, hq => cases hq; exact ⟨zArrT ⟨k5, p5, b5, d5⟩, a5⟩
  | k + 6, hq => simp at hq
theorem zStrs {s : State} {args : Array Value} {A : Nat → Prop} (h : (Jvm.Cond.and given_1 narrow_1).before args s = true) (hA : ∀ a : Nat, a < s.heap.size → ¬ A a) : ∃ adK adV : Nat → Nat, vk_S zStrN zLenS zBytS adK adV A s s.heap ∧ ∀ i : Nat, i < zStrN → (Term.string RX4 (zStI i)).eval args s none [] s = some (.ref (adK i)) := by
  have hs := flat_of_before _ h
  refine vk_Sof (tm := fun i => Term.string RX4 (zStI i)) (fun i hi => ?_) (fun i hi => ?_) (fun i hi => ?_) (fun i hi => ?_) (fun i hi => ?_) (fun i hi j hj => ?_) (fun i j hi hj hij => ?_) hA
  ·
    have h6 : i = 0 ∨ i = 1 ∨ i = 2 ∨ i = 3 ∨ i = 4 ∨ i = 5 := by have hi9 : i < 6 := hi; omega
    rcases h6 with q | q | q | q | q | q <;> subst q <;> decide
  ·
    have h6 : i = 0 ∨ i = 1 ∨ i = 2 ∨ i = 3 ∨ i = 4 ∨ i = 5 := by have hi9 : i < 6 := hi; omega
    rcases h6 with q | q | q | q | q | q <;> subst q <;> exact hs _ (by decide +kernel)
  ·
    have h6 : i = 0 ∨ i = 1 ∨ i = 2 ∨ i = 3 ∨ i = 4 ∨ i = 5 := by have hi9 : i < 6 := hi; omega
    rcases h6 with q | q | q | q | q | q <;> subst q <;> exact hs _ (by decide +kernel)
  ·
    have h6 : i = 0 ∨ i = 1 ∨ i = 2 ∨ i = 3 ∨ i = 4 ∨ i = 5 := by have hi9 : i < 6 := hi; omega
    rcases h6 with q | q | q | q | q | q <;> subst q <;> exact hs _ (by decide +kernel)
  ·
    have h6 : i = 0 ∨ i = 1 ∨ i = 2 ∨ i = 3 ∨ i = 4 ∨ i = 5 := by have hi9 : i < 6 := hi; omega
    rcases h6 with q | q | q | q | q | q <;> subst q <;> exact hs _ (by decide +kernel)
  ·
    have h6 : i = 0 ∨ i = 1 ∨ i = 2 ∨ i = 3 ∨ i = 4 ∨ i = 5 := by have hi9 : i < 6 := hi; omega
    rcases h6 with q | q | q | q | q | q <;> subst q
    · have h5 : j = 0 ∨ j = 1 ∨ j = 2 ∨ j = 3 ∨ j = 4 := by have hj9 : j < 5 := hj; omega
      rcases h5 with q | q | q | q | q <;> subst q <;> exact hs _ (by decide +kernel)
    · have h5 : j = 0 ∨ j = 1 ∨ j = 2 ∨ j = 3 := by have hj9 : j < 4 := hj; omega
      rcases h5 with q | q | q | q <;> subst q <;> exact hs _ (by decide +kernel)
    · have h5 : j = 0 ∨ j = 1 ∨ j = 2 := by have hj9 : j < 3 := hj; omega
      rcases h5 with q | q | q <;> subst q <;> exact hs _ (by decide +kernel)
    · have h5 : j = 0 ∨ j = 1 ∨ j = 2 ∨ j = 3 ∨ j = 4 := by have hj9 : j < 5 := hj; omega
      rcases h5 with q | q | q | q | q <;> subst q <;> exact hs _ (by decide +kernel)
    · have h5 : j = 0 ∨ j = 1 ∨ j = 2 ∨ j = 3 := by have hj9 : j < 4 := hj; omega
      rcases h5 with q | q | q | q <;> subst q <;> exact hs _ (by decide +kernel)
    · have h5 : j = 0 ∨ j = 1 ∨ j = 2 ∨ j = 3 ∨ j = 4 := by have hj9 : j < 5 := hj; omega
      rcases h5 with q | q | q | q | q <;> subst q <;> exact hs _ (by decide +kernel)
  ·
    have h6 : i = 0 ∨ i = 1 ∨ i = 2 ∨ i = 3 ∨ i = 4 ∨ i = 5 := by have hi9 : i < 6 := hi; omega
    rcases h6 with q | q | q | q | q | q <;> subst q
    · have h5 : j = 0 ∨ j = 1 ∨ j = 2 ∨ j = 3 ∨ j = 4 ∨ j = 5 := by have hj9 : j < 6 := hj; omega
      rcases h5 with q | q | q | q | q | q <;> subst q <;> first | exact absurd rfl hij | exact Or.inl (hs _ (by decide +kernel)) | exact Or.inr (hs _ (by decide +kernel))
    · have h5 : j = 0 ∨ j = 1 ∨ j = 2 ∨ j = 3 ∨ j = 4 ∨ j = 5 := by have hj9 : j < 6 := hj; omega
      rcases h5 with q | q | q | q | q | q <;> subst q <;> first | exact absurd rfl hij | exact Or.inl (hs _ (by decide +kernel)) | exact Or.inr (hs _ (by decide +kernel))
    · have h5 : j = 0 ∨ j = 1 ∨ j = 2 ∨ j = 3 ∨ j = 4 ∨ j = 5 := by have hj9 : j < 6 := hj; omega
      rcases h5 with q | q | q | q | q | q <;> subst q <;> first | exact absurd rfl hij | exact Or.inl (hs _ (by decide +kernel)) | exact Or.inr (hs _ (by decide +kernel))
    · have h5 : j = 0 ∨ j = 1 ∨ j = 2 ∨ j = 3 ∨ j = 4 ∨ j = 5 := by have hj9 : j < 6 := hj; omega
      rcases h5 with q | q | q | q | q | q <;> subst q <;> first | exact absurd rfl hij | exact Or.inl (hs _ (by decide +kernel)) | exact Or.inr (hs _ (by decide +kernel))
    · have h5 : j = 0 ∨ j = 1 ∨ j = 2 ∨ j = 3 ∨ j = 4 ∨ j = 5 := by have hj9 : j < 6 := hj; omega
      rcases h5 with q | q | q | q | q | q <;> subst q <;> first | exact absurd rfl hij | exact Or.inl (hs _ (by decide +kernel)) | exact Or.inr (hs _ (by decide +kernel))
    · have h5 : j = 0 ∨ j = 1 ∨ j = 2 ∨ j = 3 ∨ j = 4 ∨ j = 5 := by have hj9 : j < 6 := hj; omega
      rcases h5 with q | q | q | q | q | q <;> subst q <;> first | exact absurd rfl hij | exact Or.inl (hs _ (by decide +kernel)) | exact Or.inr (hs _ (by decide +kernel))

theorem zSioOf {s : State} {args : Array Value} {A : Nat → Prop} (hts : ∀ w ∈ lw_tbl, w.before args s = true) (h : (Jvm.Cond.and given_1 narrow_1).before args s = true) (hA : ∀ a : Nat, a < s.heap.size → ¬ A a) : ∃ sio : Nat, va_Z "jdk/internal/util/Preconditions" "SIOOBE_FORMATTER" "Ljava/util/function/BiFunction;" .null A s s.heap ∨ va_Z "jdk/internal/util/Preconditions" "SIOOBE_FORMATTER" "Ljava/util/function/BiFunction;" (.ref sio) A s s.heap := by
  have hs := flat_of_before _ h
  have h1 := va_Zqof (hts (.laysStatic "jdk/internal/util/Preconditions" "SIOOBE_FORMATTER" "Ljava/util/function/BiFunction;") (by decide +kernel)) (hts (.initialized "jdk/internal/util/Preconditions") (by decide +kernel)) (hs (.isRef (.static "jdk/internal/util/Preconditions" "SIOOBE_FORMATTER" "Ljava/util/function/BiFunction;")) (by decide +kernel)) hA
  rcases h1 with h1 | ⟨t, h1⟩
  · exact ⟨0, Or.inl h1⟩
  · exact ⟨t, Or.inr h1⟩
theorem zNws {s : State} {args : Array Value} (hts : ∀ w ∈ lw_tbl, w.before args s = true) : ∀ w ∈ zTN, va_Nw w s := by
  intro w hw
  have h1 := hts w (List.mem_filter.mp hw).1
  have h2 := (List.mem_filter.mp hw).2
  cases w <;> first | exact va_tabs rfl rfl h1 | (simp [zNw] at h2)
/-- the fixed things -/
def zMkG (l : Launch) (dC : Nat → ClassId) (dI : Nat → Nat → Nat) (cls : Nat → ClassId) (adK adV : Nat → Nat) (A0 b L sio : Nat) (xs : Nat → Int32) : zG := (l, (dC, dI), cls, fun r => if r < 1000 then A0 + r else if r < 2000 then adK (r - 1000) else if r < 3000 then adV (r - 2000) else if r = 3000 then b else sio, A0, b, L, xs)
section ZMKG
variable {l : Launch} {dC : Nat → ClassId} {dI : Nat → Nat → Nat} {cls : Nat → ClassId} {adK adV : Nat → Nat} {A0 b L sio : Nat} {xs : Nat → Int32}
theorem zMkG_r {r : Nat} (h : r < 1000) : zad (zMkG l dC dI cls adK adV A0 b L sio xs) r = A0 + r := if_pos h
theorem zMkG_k {k : Nat} (h : k < 1000) : zad (zMkG l dC dI cls adK adV A0 b L sio xs) (1000 + k) = adK k := by
  show (if 1000 + k < 1000 then _ else if 1000 + k < 2000 then adK (1000 + k - 1000) else _) = _
  rw [if_neg (by omega), if_pos (by omega), show 1000 + k - 1000 = k by omega]
theorem zMkG_v {k : Nat} (h : k < 1000) : zad (zMkG l dC dI cls adK adV A0 b L sio xs) (2000 + k) = adV k := by
  show (if 2000 + k < 1000 then _ else if 2000 + k < 2000 then _ else if 2000 + k < 3000 then adV (2000 + k - 2000) else _) = _
  rw [if_neg (by omega), if_neg (by omega), if_pos (by omega), show 2000 + k - 2000 = k by omega]
theorem zMkG_b : zad (zMkG l dC dI cls adK adV A0 b L sio xs) 3000 = b := rfl
theorem zMkG_s : zad (zMkG l dC dI cls adK adV A0 b L sio xs) 3001 = sio := rfl
end ZMKG
set_option maxHeartbeats 4000000 in
set_option maxRecDepth 100000 in
theorem whole_start {p : Program} {e : Env} {s : State} {m : MethodId} {below : List Frame} {meth : Method} {c : Code} (l : Launch) (hflags : l.flags = flags0) {b L : Nat} {xs : Nat → Int32} (hL : L ≤ 3072) (C0 : lw_At p s m meth c b L xs) : W p l e room_1 s m #[Value.ref b] below meth c s.heap [] 0 0 (lw_Z below #[Value.ref b] s) (entryFrame m ([Value.ref b] : List Value).toArray 4) := by
  obtain ⟨hx, hb, hr, hml, hown, hts, hX, hbl, hlocks, hgv⟩ := id C0
  have hA : ∀ a : Nat, a < s.heap.size → ¬ (fun q : Nat => s.heap.size ≤ q) a := fun a h => Nat.not_le.mpr h
  obtain ⟨dC, dI, hKc⟩ := zKnown hts
  obtain ⟨cls, hKt⟩ := zArrs hts
  obtain ⟨adK, adV, hSt, hEv⟩ := zStrs hgv hA
  obtain ⟨sio, hsio⟩ := zSioOf hts hgv hA
  have hs := flat_of_before _ hgv
  have hcs := va_Zof (A := fun q : Nat => s.heap.size ≤ q) (hts (.laysStatic "java/lang/String" "COMPACT_STRINGS" "Z") (by decide +kernel)) (hts (.initialized "java/lang/String") (by decide +kernel)) (va_eqi (z := 1) (hs (.eq (.static "java/lang/String" "COMPACT_STRINGS" "Z") (.int 1)) (by decide +kernel))) hA
  have hT : ∀ w ∈ zT, w.before #[Value.ref b] s = true := fun w hw => hts w (List.mem_filter.mp hw).1
  obtain ⟨G, eG⟩ : ∃ G, G = zMkG l dC dI cls adK adV s.heap.size b L sio xs := ⟨_, rfl⟩
  have had : ∀ r, r < 1000 → zad G r = G.2.2.2.2.1 + r := by rw [eG]; exact fun r h => zMkG_r h
  have hst : vk_S zStrN zLenS zBytS (fun k => zad G (1000 + k)) (fun k => zad G (2000 + k)) (zA G) s s.heap := by
    rw [eG]
    refine ⟨fun i hi => ?_, fun i j hi hj h9 => ?_⟩
    · have h6 : i < 6 := hi
      show va_O _ (zad _ (1000 + i)) _ _ _ ∧ va_OF _ _ _ _ (zad _ (1000 + i)) _ _ _ ∧ va_OF _ _ _ (.ref (zad _ (2000 + i))) (zad _ (1000 + i)) _ _ _ ∧ va_T _ (zad _ (2000 + i)) _ _ _ _ _
      rw [zMkG_k (by omega), zMkG_v (by omega)]
      exact hSt.1 i hi
    · have h6 : i < 6 := hi
      have h7 : j < 6 := hj
      have h8 : zad (zMkG l dC dI cls adK adV s.heap.size b L sio xs) (1000 + i) = zad (zMkG l dC dI cls adK adV s.heap.size b L sio xs) (1000 + j) := h9
      rw [zMkG_k (by omega), zMkG_k (by omega)] at h8
      exact hSt.2 i j hi hj h8
  have hnst : zNst G s := by
    rw [eG]
    refine ⟨zNws hts, fun k hk => ?_⟩
    rw [zMkG_k (by omega)]
    refine vk_R.of (A := #[Value.ref b]) ?_ ?_
    · have h6 : k = 0 ∨ k = 1 ∨ k = 2 ∨ k = 3 ∨ k = 4 ∨ k = 5 := by omega
      rcases h6 with q | q | q | q | q | q <;> subst q <;> exact hts _ (by decide +kernel)
    · exact hEv k hk
  have hout : zOut G s s.heap := by
    refine ⟨by rw [eG]; exact hX, by rw [eG]; exact hA b hbl, by rw [eG]; exact hbl, hst, by rw [eG]; exact hcs, by rw [eG]; exact hsio, va_AO.of (hts (.arrayOver (.object RX2)) (by decide +kernel)), va_AO.of (hts (.arrayOver (.object RX3)) (by decide +kernel)), hts (.arrayOver (.array .int)) (by decide +kernel)⟩
  have hGb : zad G 3000 = G.2.2.2.2.2.1 := by rw [eG]; rfl
  have hGl : G.1 = l := by rw [eG]; rfl
  have hl := lv_entry ([.ref b]) (n := 4) (Nat.le_of_ble_eq_true rfl)
  rw [lg_entry_eq]
  generalize (lg_sl ([.ref b]) ++ List.replicate (4 - (lg_sl ([.ref b])).length) Slot.unset).toArray = ls at hl ⊢
  have hls : zLs (zad G) ls 4 [.ref 3000, zx, zx, zx] := by
    refine ⟨hl.1, hl.2.1, fun i v hi hz => ?_⟩
    match i, hi with
    | 0, hi =>
      cases hi
      have h9 : zTv (zad G) (.ref 3000) = .ref b := by rw [eG]; rfl
      rw [h9]
      exact hl.2.2 (0, .ref b) List.mem_cons_self
    | 1, hi => cases hi; cases hz
    | 2, hi => cases hi; cases hz
    | 3, hi => cases hi; cases hz
    | k + 4, hi => simp at hi
  have K := l_law_start G (mn := meth.name) hGb (by rw [eG]; exact hL) p e s m #[Value.ref b] below meth c s.heap [] ls ⟨hx, hb, hr, hml, hown, hT, hlocks, rfl, by rw [eG]; rfl, had, hnst, hout⟩ ⟨va_S.rf, fun k q h => by simp [zWs] at h, ⟨fun i j p q h => by simp [zWs] at h, fun k q h => by simp [zWs] at h⟩, by rw [eG]; exact ⟨hKc, hKt⟩, fun r _ => ⟨fun _ => rfl, fun _ => rfl, fun _ => rfl⟩⟩ hls (Nat.le_refl 0)
  rw [hGl] at K
  exact K
set_option maxHeartbeats 4000000 in
theorem lw_walk (l : Launch) (hflags : l.flags = flags0) (b : Addr) (xs : List Int32) : MetFree l x (headSpec (Jvm.Cond.code x code maxLocals ret :: tables_1) room_1) (lw_P b xs) (fun _ _ _ _ _ => True) lw_Q := by
  refine MetFree.of_bodyS (code := code) (maxLocals := maxLocals) (ret := ret) (by decide) ?_ ?_
  · intro args s m h hn
    obtain ⟨meth, c, h1, h2, h3, h4, h5, h6, -, -⟩ := Cond.code_spec hn (atoms_spec (ws := Jvm.Cond.code x code maxLocals ret :: tables_1) h _ List.mem_cons_self)
    exact ⟨meth, c, h1, h2, h3, h4, h5, h6⟩
  · intro p e s m args below meth c s₁ B hml0 hP _
    obtain ⟨rfl, hx, hbd, hgv⟩ := hP
    obtain ⟨scr, harrAt, hlist, hof, hsmall⟩ := hx
    obtain ⟨hcb, hkn, -, -⟩ := State.arrayAt?_spec harrAt
    have hown : s.vm.findClass R_law = some m.cls := findClass_of_methodNamed B.named
    have hts0 : ∀ c ∈ (Jvm.Cond.code x code maxLocals ret :: tables_1), c.before #[Value.ref b] s = true := atoms_spec (ws := Jvm.Cond.code x code maxLocals ret :: tables_1) B.pre
    have hts : ∀ w ∈ lw_tbl, w.before #[Value.ref b] s = true := k2_hts_sels lw_privs (fun w hw => hts0 w (List.mem_cons_of_mem _ hw)) lw_privs_ok
    have hml : c.maxLocals = 4 := B.maxLocals_eq (hts0 _ List.mem_cons_self)
    have X₀ : Stand p l e room_1 s m #[Value.ref b] below meth c s₁ [] 0 0 := Stand.of_body B
    have hh0 : s₁.heap = s.heap := by rw [B.state]; rfl
    have hsz : scr.slots.size = xs.length := by rw [← Array.length_toList, hlist, List.length_map]
    have hval : ∀ j : Nat, j < xs.length → scr.slots[j]? = some (.int (xs.getD j 0)) := fun j hj => by
      rw [← Array.getElem?_toList, hlist]
      simp [hj]
    have hbl : b < s.heap.size := (Array.getElem?_eq_some_iff.mp hcb).1
    have hX : va_X b xs.length (fun j => xs.getD j 0) s s.heap := ⟨scr, hcb, hof, hkn, hsz, hval⟩
    have K : W p l e room_1 s m #[Value.ref b] below meth c s₁.heap [] 0 0 (lw_Z below #[Value.ref b] s) (entryFrame m ([Value.ref b] : List Value).toArray 4) := by
      rw [hh0]
      exact whole_start l hflags hbd ⟨B.exec, B.bytes, B.returns, hml, hown, hts, hX, hbl, B.notSynchronized, hgv⟩
    obtain ⟨t, a1, o, b1, b2, b3⟩ := K s₁ rfl X₀
    exact ⟨t, o, a1, b1, b2, b3⟩
theorem lw_pre_spec {args : Array Value} {s : State} (h : (Jvm.Cond.and given_1 narrow_1).before args s = true) (hr : rest_1_c.before args s = true) : ∃ (b : Addr) (xs : List Int32), lw_P b xs args s := by
  have hs := flat_of_before _ h
  have hq := flat_of_before _ hr
  have hc : (Cond.count 1).before args s = true := hs _ (by decide +kernel)
  have harr : (Cond.arrayOf (.arg 0) .int).before args s = true := hs _ (by decide +kernel)
  have hle : (Cond.le (.length (.arg 0)) (.int 3072)).before args s = true := hs _ (by decide +kernel)
  have hlen : (Cond.isInt (.length (.arg 0))).before args s = true := hq _ (by decide +kernel)
  have hall : (Cond.all (.arg 0) (.isInt (.elem (.arg 0) (.index 0)))).before args s = true := hq _ (by decide +kernel)
  obtain ⟨b, xs, hb, hx⟩ := State.ints_of_pre rfl harr hlen hall
  have hsm : xs.length < 2 ^ 31 := hx.choose_spec.2.2.2
  have hev : (Term.length (.arg 0)).eval args s none [] s = some (.int xs.length.toInt32) := hx.length_eval hb
  have hv := Cond.le_ints hev (show (Term.int 3072).eval args s none [] s = some (.int 3072) from rfl)
  have hd : xs.length.toInt32 ≤ 3072 := by
    simpa [Cond.before, Cond.holds, hv] using hle
  have hN : xs.length ≤ 3072 := (Int32.ofNat_le_ofNat hsm (by decide)).mp (show Int32.ofNat xs.length ≤ Int32.ofNat 3072 from hd)
  exact ⟨b, xs, Cond.one_arg hc (show args[0]? = some (.ref b) from hb), hx, hN, h⟩
theorem lw_comes (l : Launch) (hflags : l.flags = flags0) : Comes l x (Jvm.Cond.code x code maxLocals ret :: tables_1) room_1 (fun tb e args s => Calls_1 tb e args s ∧ rest_1 tb e args s ∧ Pre_1 tb e args s)
    (fun _ _ args s o t => lw_Q args s o t) := by
  intro p e ha hc hk s m args below hf hfit hheap happ hpre
  obtain ⟨b, xs, hP⟩ := lw_pre_spec hpre.2.2 hpre.2.1
  obtain ⟨k, o, h1, h2, h3, hQ⟩ := lw_walk l hflags b xs p e ha hc hk s m args below hf ((Spec.applies_iff_loose hf).mp happ).1 hP trivial
  exact ⟨k, o, h1, h2, h3, hQ⟩
theorem lw_frame {s t : State} {o : Outcome} {args : Array Value} (h : Framed s o t [] 600000 7302249) :
    Framed s o t (fieldLocs frame_1_writes args s ++ arrayLocs frame_1_arrays args s ++ staticLocs frame_1_statics s) 600000 7302249 := h
theorem lw_limb (L : Cond) (hL : ∀ (args : Array Value) (s t : State), L.after args s (.returned (some (.int 1))) t = true) :
    ArmFor flags0 classFile x code maxLocals ret World_1 tables_1 room_1 Calls_1 rest_1 Pre_1
      (fun tb e a s o t => postC L tb e a s o t ∧ Framed s o t (fieldLocs frame_1_writes a s ++ arrayLocs frame_1_arrays a s ++ staticLocs frame_1_statics s) 600000 7302249) := by
  intro l hflags _ _ p e ha hc hk s m args below hf hfit hheap happ hpre
  obtain ⟨k, o, h1, h2, h3, rfl, hF⟩ := lw_comes l hflags p e ha hc hk s m args below hf hfit hheap happ hpre
  exact ⟨k, _, h1, h2, h3, hL args s _, lw_frame hF⟩
theorem i_vc : Claimed_1_1 ∧ Claimed_1_2 := ⟨lw_limb limb_1_1 (fun args s t => by simp [limb_1_1, Cond.after, Cond.holds, Cond.value]), lw_limb limb_1_2 (fun args s t => Cond.after_iff.mpr (by
  first | (rw [show limb_1_2 = Cond.eq .result (.int 1) from rfl, Cond.eq_ints (x := 1) (y := 1) rfl rfl]; simp; done) | (simp [limb_1_2, Cond.value, Term.eval]; done)))⟩

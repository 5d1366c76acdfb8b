/-! CONTRACTS AND CALLS -/
abbrev zQ : Type := Option Value → zFi → zFl → zFr → Prop
def zPre (G : zG) (n : Nat) (mi : zFi) (ml : zFl) (mr : zFr) (U : State) : Prop :=
  U.heap.size = G.2.2.2.2.1 + n ∧ va_P G.2.1 vwCl (zWs G n mi ml mr) U.heap ∧ va_D (zA G) (zWs G n mi ml mr) ∧ va_K G.2.1 vwCl (zTys G) U ∧ zFresh n mi ml mr ∧ zNst G U ∧ zOut G U U.heap ∧ ∀ r, r < 1000 → zad G r = G.2.2.2.2.1 + r
def zPost (G : zG) (n' : Nat) (Q : zQ) : Array Value → State → Outcome → State → Prop := fun _ st oc t =>
  (∃ (r : Option Value) (mi : zFi) (ml : zFl) (mr : zFr), oc = .returned (r.map (zTv (zad G))) ∧ Q r mi ml mr ∧ va_P G.2.1 vwCl (zWs G n' mi ml mr) t.heap ∧ va_D (zA G) (zWs G n' mi ml mr) ∧ zFresh n' mi ml mr) ∧ va_F (zA G) st t
def zRm (d n n' : Nat) : Room := { frames := d, cells := n' - n, slots := zSl n' - zSl n, locals := 40 * d }
/-- the contract of method y (code cc, nL words of locals, answer ret) at depth d: from the arguments As and the cells as told it returns, and Q holds of the answer and of the cells behind it -/
def zMet (G : zG) (d : Nat) (y : MethodName) (cc : ByteArray) (nL : Nat) (ret : Option FieldType) (As : List Value) (n : Nat) (mi : zFi) (ml : zFl) (mr : zFr) (n' : Nat) (Q : zQ) : Prop :=
  Met G.1 y (.code y cc nL ret :: zT) (zRm d n n') (va_Pc (As.map (zTv (zad G))) (zPre G n mi ml mr)) (zPost G n' Q) (n' - n) (zSl n' - zSl n) (zA G)
def zQm (G : zG) (n0 n' : Nat) (Q : zQ) : zQQ := fun below args s => MQ below (zPost G n' Q) args s (n' - n0) (zSl n' - zSl n0) (zA G)
/-- the locals at the entry -/
def zEn : List Value → List Value
  | [] => []
  | .long x :: t => .long x :: zx :: zEn t
  | .double x :: t => .double x :: zx :: zEn t
  | v :: t => v :: zEn t
theorem zEn_args (ad : Nat → Nat) : ∀ (As : List Value) (o i : Nat) (v : Value), (zEn As)[i]? = some v → zok v = true → (o + i, zTv ad v) ∈ lv_args o (As.map (zTv ad))
  | [], o, i, v, h, _ => by simp [zEn] at h
  | a :: t, o, i, v, h, hz => by
    have key : ∀ (b : Value) (z : List Value), zEn (a :: t) = b :: z → b = a → (z = zEn t ∧ a.category = 1 ∨ z = zx :: zEn t ∧ a.category = 2) → (o + i, zTv ad v) ∈ lv_args o ((a :: t).map (zTv ad)) := by
      intro b z hb hba hzz
      subst hba
      rw [hb] at h
      show _ ∈ lv_args o (zTv ad b :: t.map (zTv ad))
      unfold lv_args
      rw [zTv_cat]
      cases i with
      | zero =>
        simp at h
        subst h
        exact List.mem_cons_self
      | succ i =>
        simp at h
        rcases hzz with ⟨rfl, hc⟩ | ⟨rfl, hc⟩
        · rw [if_neg (by omega)]
          have := zEn_args ad t (o + 1) i v h hz
          rw [show o + 1 + i = o + (i + 1) by omega] at this
          exact List.mem_cons_of_mem _ this
        · rw [if_pos hc]
          cases i with
          | zero =>
            simp at h
            subst h
            simp [zok] at hz
          | succ i =>
            simp at h
            have := zEn_args ad t (o + 2) i v h hz
            rw [show o + 2 + i = o + (i + 1 + 1) by omega] at this
            exact List.mem_cons_of_mem _ this
    cases a <;> first | exact key _ _ rfl rfl (Or.inl ⟨rfl, rfl⟩) | exact key _ _ rfl rfl (Or.inr ⟨rfl, rfl⟩)
theorem zEn_pad (ad : Nat → Nat) (As : List Value) (k i : Nat) (v : Value) (h : (zEn As ++ List.replicate k zx)[i]? = some v) (hz : zok v = true) : (0 + i, zTv ad v) ∈ lv_args 0 (As.map (zTv ad)) := by
  by_cases hi : i < (zEn As).length
  · rw [List.getElem?_append_left hi] at h
    exact zEn_args ad As 0 i v h hz
  · rw [List.getElem?_append_right (by omega)] at h
    have := List.mem_of_getElem? h
    rw [List.mem_replicate] at this
    rw [this.2] at hz
    simp [zok] at hz
theorem z_sl (ad : Nat → Nat) : ∀ As : List Value, (lg_sl (As.map (zTv ad))).length = (zEn As).length
  | [] => rfl
  | a :: t => by
    show (lg_sl (zTv ad a :: t.map (zTv ad))).length = _
    rw [show lg_sl (zTv ad a :: t.map (zTv ad)) = (if (zTv ad a).category = 2 then [.val (zTv ad a), .second] else [.val (zTv ad a)]) ++ lg_sl (t.map (zTv ad)) from rfl, List.length_append, z_sl ad t]
    cases a <;> simp [zEn, zTv, Value.category] <;> omega
/-- a contract out of a walk from the entry -/
theorem z_intro {G : zG} {d : Nat} {y : MethodName} {cc : ByteArray} {nL : Nat} {ret : Option FieldType} {As : List Value} {n : Nat} {mi : zFi} {ml : zFl} {mr : zFr} {n' : Nat} {Q : zQ} (L : List Value) (hy : plainName y.cls = true) (hL : zEn As ++ List.replicate (nL - (zEn As).length) zx = L) (hlen : (zEn As).length ≤ nL)
    (k : zE G (zRm d n n') (zQm G n n' Q) y.cls y.name cc nL ret n 0 L [] n mi ml mr) : zMet G d y cc nL ret As n mi ml mr n' Q := by
  refine Met.ofW (cc := cc) (maxL := nL) (ret := ret) hy rfl ?_
  intro p e s m args below meth c s₁ B hml hv
  obtain ⟨rfl, hsz, hP, hD, hK, hF, hNs, hO, had⟩ := hv
  have hts := atoms_spec (ws := .code y cc nL ret :: zT) B.pre
  have hl := lv_entry (As.map (zTv (zad G))) (n := nL) (by rw [z_sl]; exact hlen)
  rw [lg_entry_eq]
  subst hL
  have K := k p e s m (As.map (zTv (zad G))).toArray below meth c s.heap [] _ ⟨B.exec, B.bytes, B.returns, hml, findClass_of_methodNamed B.named, fun w hw => hts w (List.mem_cons_of_mem _ hw), B.notSynchronized, (name_of_methodNamed B.named B.method).1, hsz, had, hNs, hO⟩
    ⟨va_S.rf, hP, hD, hK, hF⟩ ⟨hl.1, hl.2.1, fun i v hi hz => by
      have h1 := zEn_pad (zad G) As _ i v hi hz
      rw [Nat.zero_add] at h1
      exact hl.2.2 _ h1⟩ (Nat.le_refl n)
  rw [Nat.sub_self, Nat.sub_self] at K
  exact K
section ZRET
variable {G : zG} {R : Room} {own mn : String} {cc : ByteArray} {nL : Nat} {ret : Option FieldType} {n0 pc : Nat} {L : List Value} {n : Nat} {mi : zFi} {ml : zFl} {mr : zFr} {Q : zQ}
theorem e_ireturn {x : Int32} (ty : FieldType) (hd : decode cc pc = .ok (.ireturn, 1)) (hret : ret = some ty) (hnr : narrow ty (.int x) = .int x) (hQ : Q (some (.int x)) mi ml mr) : zE G R (zQm G n0 n Q) own mn cc nL ret n0 pc L [.int x] n mi ml mr := by
  intro p e s m args below meth c H locs ls hC hR hL hn
  exact W.zret (ty := ty) hC.1 hC.2.1 (hC.2.2.1.trans hret) hnr (fun t ht hW => ⟨⟨some (.int x), mi, ml, mr, rfl, hQ, by rw [ht]; exact hR.2.1, hR.2.2.1, hR.2.2.2.2⟩, hR.1.F ht⟩) hR.1.2.2 hd hC.2.2.2.2.2.2.1
theorem e_lreturn {x : Int64} (hd : decode cc pc = .ok (.lreturn, 1)) (hret : ret = some .long) (hQ : Q (some (.long x)) mi ml mr) : zE G R (zQm G n0 n Q) own mn cc nL ret n0 pc L [.long x] n mi ml mr := by
  intro p e s m args below meth c H locs ls hC hR hL hn
  exact W.lret hC.1 hC.2.1 (hC.2.2.1.trans hret) (fun t ht hW => ⟨⟨some (.long x), mi, ml, mr, rfl, hQ, by rw [ht]; exact hR.2.1, hR.2.2.1, hR.2.2.2.2⟩, hR.1.F ht⟩) hR.1.2.2 hd hC.2.2.2.2.2.2.1
theorem e_vreturn (hd : decode cc pc = .ok (.return_, 1)) (hret : ret = none) (hQ : Q none mi ml mr) : zE G R (zQm G n0 n Q) own mn cc nL ret n0 pc L [] n mi ml mr := by
  intro p e s m args below meth c H locs ls hC hR hL hn
  exact W.vret hC.1 hC.2.1 (hC.2.2.1.trans hret) (fun t ht hW => ⟨⟨none, mi, ml, mr, rfl, hQ, by rw [ht]; exact hR.2.1, hR.2.2.1, hR.2.2.2.2⟩, hR.1.F ht⟩) hR.1.2.2 hd hC.2.2.2.2.2.2.1
end ZRET
/-- entry idx of own's pool names method y, and the tables say all that a call of it asks -/
def zML (own : String) (idx : Nat) (y : MethodName) (cc : ByteArray) (nL : Nat) (ret : Option FieldType) (np : Nat) : Prop :=
  (Cond.methodLink own idx y ∈ zT ∨ ∃ h : String, Cond.methodLinkNest own idx y h ∈ zTN) ∧ Cond.code y cc nL ret ∈ zT ∧ Cond.initialized y.cls ∈ zT ∧ (y.cls ≠ "java/lang/invoke/MethodHandle" ∧ y.cls ≠ "java/lang/invoke/VarHandle") ∧ (parseMethodDescriptor y.desc).map (fun d => d.parameters.length) = some np
theorem zPre_blind {G : zG} {As : List Value} {n : Nat} {mi : zFi} {ml : zFl} {mr : zFr} : FrameBlind (va_Pc As (zPre G n mi ml mr)) := by
  intro a U g mk q
  obtain ⟨q0, q1, q2, q3, q4, q5, q5n, q6, q7⟩ := q
  exact ⟨q0, q1, q2, q3, va_K.moved (u := U) (U := U.calling g mk a) (Vm.Alike.refl U.vm) q4, q5, q5n.same (s := U) (U := U.calling g mk a) rfl, zOut.moved (u := U) (U := U.calling g mk a) (Vm.Alike.refl U.vm) q6, q7⟩
/-- what a callee finds -/
theorem zPre_of {G : zG} {own mn : String} {cc : ByteArray} {nL : Nat} {ret : Option FieldType} {n0 n : Nat} {mi : zFi} {ml : zFl} {mr : zFr} {p : Program} {s : State} {m : MethodId} {args : Array Value} {meth : Method} {c : Code} {H : Heap} {locs : List Loc} (hC : zCx G own mn cc nL ret n0 p s m args meth c) (hR : zRl G n mi ml mr s H locs) (hH : H.size = G.2.2.2.2.1 + n) :
    ∀ U : State, U.heap = H → s.WarmedH U.vm → zPre G n mi ml mr U := by
  intro U hU hW
  obtain ⟨hx, hb, hrt, hml, hown, hts, hlk, hmn, hsz, had, hns, hout⟩ := hC
  obtain ⟨hS, hP, hD, hK, hF⟩ := hR
  refine ⟨by rw [hU]; exact hH, by rw [hU]; exact hP, hD, hK.moved hW.alike, hF, hns.warm hW, ?_, had⟩
  rw [hU]
  exact (hout.kept hS.1 (fun a h1 h2 => hS.2.1 a h1 h2)).moved hW.alike
section ZCALL
variable {G : zG} {R : Room} {QQ : zQQ} {own mn : String} {cc : ByteArray} {nL : Nat} {ret : Option FieldType} {n0 pc : Nat} {L st : List Value} {n : Nat} {mi : zFi} {ml : zFl} {mr : zFr}
variable {d np idx nL' n' : Nat} {y : MethodName} {cc' : ByteArray} {ret' : Option FieldType} {As rest : List Value} {Q : zQ}
/-- behind a call -/
theorem z_after {p : Program} {e : Env} {s : State} {m : MethodId} {args : Array Value} {below : List Frame} {meth : Method} {c : Code} {H : Heap} {locs : List Loc} {ls : Array Slot} {st0 : List Value} {a : Array Value} {T : State}
    (hC : zCx G own mn cc nL ret n0 p s m args meth c) (hR : zRl G n mi ml mr s H locs) (hL : zLs (zad G) ls nL L) (hn : n0 ≤ n) (hnn : n ≤ n')
    (hr : va_Run p G.1 e R s m args below meth c H locs (n - n0) (zSl n - zSl n0) (n' - n) (zSl n' - zSl n) (F0 m pc ls st0) (rest.map (zTv (zad G))) (zPost G n' Q a) (zA G)) (hT : T.heap = H) (X : Stand p G.1 e R s m args below meth c T locs (n - n0) (zSl n - zSl n0))
    (k : ∀ r mi' ml' mr', Q r mi' ml' mr' → zE G R QQ own mn cc nL ret n0 (pc + 3) L (r.toList ++ rest) n' mi' ml' mr') : ∃ t, Steps p.tables e below (T.setTop (F0 m pc ls st0)) t ∧ QQ below args s t := by
  obtain ⟨v, st₀, t, T', Lc, h0, X', hLc, e1, e2, ⟨⟨r, mi', ml', mr', hv, hq, hP', hD', hF'⟩, hz, hk⟩, step⟩ := hr T hT X
  injection hv with hv
  subst hv
  rw [h0] at hz hk
  have hle1 := zSl_le hn
  have hle2 := zSl_le hnn
  have c1 : n - n0 + (n' - n) = n' - n0 := by omega
  have c2 : zSl n - zSl n0 + (zSl n' - zSl n) = zSl n' - zSl n0 := by omega
  rw [c1, c2] at X'
  have hS' : va_S (zA G) s.heap T'.heap (locs ++ Lc) := ⟨Nat.le_trans hR.1.1 (by rw [e1]; exact hz), fun q h1 h2 => by rw [e1, hk q (Nat.lt_of_lt_of_le h1 hR.1.1) h2]; exact hR.1.2.1 q h1 h2, fun q hq => by
    rcases List.mem_append.mp hq with h | h
    · exact hR.1.2.2 q h
    · exact hLc q h⟩
  obtain ⟨t2, a1, b1⟩ := k r mi' ml' mr' hq p e s m args below meth c T'.heap (locs ++ Lc) ls hC ⟨hS', by rw [e1]; exact hP', hD', hR.2.2.2.1, hF'⟩ hL (by omega) T' rfl X'
  refine ⟨t2, step t2 ?_, b1⟩
  have e9 : (r.toList ++ rest).map (zTv (zad G)) = (r.map (zTv (zad G))).toList ++ rest.map (zTv (zad G)) := by
    cases r <;> simp
  rw [← e9]
  exact a1
theorem e_callS (hd : decode cc pc = .ok (.invokestatic idx, 3)) (hM : zMet G d y cc' nL' ret' As n mi ml mr n' Q) (hl : zML own idx y cc' nL' ret' np) (hst : Cond.static y ∈ zT) (hn9 : As.length = np) (hstk : st = As.reverse ++ rest) (hW : (rest.map fun v => v.category).sum ≤ 8) (hR1 : d + 1 ≤ R.frames) (hR2 : 8 + (nL' + 11) + 40 * d ≤ R.locals) (hnn : n ≤ n') (hn1 : n ≤ 1000) (hc : n' - n0 ≤ R.cells) (hs : zSl n' - zSl n0 ≤ R.slots)
    (k : ∀ r mi' ml' mr', Q r mi' ml' mr' → zE G R QQ own mn cc nL ret n0 (pc + 3) L (r.toList ++ rest) n' mi' ml' mr') : zE G R QQ own mn cc nL ret n0 pc L st n mi ml mr := by
  intro p e s m args below meth c H locs ls hC hR hL hn T hT X
  have hH := zSize hC hR hn hn1 hT rfl X
  have hC0 := hC
  obtain ⟨hx, hb, hrt, hml, hown, hts, hlk, hmn, hsz, had, hns, hout⟩ := hC
  obtain ⟨l1, l2, l3, l4, l5⟩ := hl
  have hgood := zT_good l2
  have hpay := pay_in hts hgood
  have hle1 := zSl_le hn
  have hle2 := zSl_le hnn
  have hpre : PreS s H (va_Pc (As.map (zTv (zad G))) (zPre G n mi ml mr)) (As.map (zTv (zad G))) := ⟨zPre_blind, fun U hU hW => ⟨rfl, zPre_of hC0 hR hH U hU hW⟩⟩
  have hstk2 : (F0 m pc ls (st.map (zTv (zad G)))).stack = (As.map (zTv (zad G))).reverse ++ rest.map (zTv (zad G)) := by rw [hstk, List.map_append, List.map_reverse]
  have hlen : ∀ sig, parseMethodDescriptor y.desc = some sig → np = sig.parameters.length := fun sig h => by
    rw [h] at l5
    exact (Option.some.inj l5).symm
  have hW2 : 2 * (F0 m pc ls (st.map (zTv (zad G)))).monitorRoom + ((rest.map (zTv (zad G))).map fun v => v.category).sum ≤ 8 := lv_room (by rw [zTv_cats]; exact hW)
  refine z_after (a := (As.map (zTv (zad G))).toArray) hC0 hR hL hn hnn ?_ hT X k
  rcases l1 with hw | ⟨h, hw⟩
  · exact va_runS (Ts := zT) ⟨hx, hb, hml, hown, hts⟩ hM ⟨⟨rfl, rfl, hR1, hR2, hpay, List.mem_cons_self, hts _ l2, hts _ l3, l4, hlen, hts _ hw⟩, hts _ hst⟩ hpre rfl (by rw [List.length_map]; exact hn9) hL.1 hstk2 hW2 hd ⟨by omega, by omega⟩
  · exact va_runSN (Ts := zT) ⟨hx, hb, hml, hown, hts⟩ hM ⟨⟨⟨rfl, rfl, hR1, hR2, hpay, List.mem_cons_self⟩, hts _ l2, hts _ l3, l4, hlen, hns.use hw⟩, hts _ hst, trivial⟩ hpre rfl (by rw [List.length_map]; exact hn9) hL.1 hstk2 hW2 hd ⟨by omega, by omega⟩
theorem e_callV {r0 ci : Nat} {T0 : u_T} {N0 : Nat} (hd : decode cc pc = .ok (.invokevirtual idx, 3)) (hM : zMet G d y cc' nL' ret' (.ref r0 :: As) n mi ml mr n' Q) (hl : zML own idx y cc' nL' ret' np) (hin : Cond.instanceMethod y ∈ zT) (hse : Cond.selects y.cls y y ∈ zT) (hcl : vwCl[ci]? = some (y.cls, T0, N0)) (hk : zKD r0 = ci) (hr0 : r0 < n) (hn9 : As.length = np) (hstk : st = As.reverse ++ .ref r0 :: rest) (hW : (rest.map fun v => v.category).sum ≤ 8) (hR1 : d + 1 ≤ R.frames) (hR2 : 8 + (nL' + 11) + 40 * d ≤ R.locals) (hnn : n ≤ n') (hn1 : n ≤ 1000) (hc : n' - n0 ≤ R.cells) (hs : zSl n' - zSl n0 ≤ R.slots)
    (k : ∀ r mi' ml' mr', Q r mi' ml' mr' → zE G R QQ own mn cc nL ret n0 (pc + 3) L (r.toList ++ rest) n' mi' ml' mr') : zE G R QQ own mn cc nL ret n0 pc L st n mi ml mr := by
  intro p e s m args below meth c H locs ls hC hR hL hn T hT X
  have hH := zSize hC hR hn hn1 hT rfl X
  have hC0 := hC
  obtain ⟨hx, hb, hrt, hml, hown, hts, hlk, hmn, hsz, had, hns, hout⟩ := hC
  obtain ⟨l1, l2, l3, l4, l5⟩ := hl
  have hgood := zT_good l2
  have hpay := pay_in hts hgood
  have hle1 := zSl_le hn
  have hle2 := zSl_le hnn
  have hlt : ci < 16 := by
    have := (List.getElem?_eq_some_iff.mp hcl).1
    have e : vwCl.length = 9 := rfl
    omega
  have he := zWs_get G mi ml mr hr0
  rw [zEnt_obj hk hlt] at he
  have hrecv := va_recv hR.2.2.2.1 hR.2.1 hcl he
  have hpre : PreV s H y.cls (zad G r0) (va_Pc ((Value.ref r0 :: As).map (zTv (zad G))) (zPre G n mi ml mr)) (As.map (zTv (zad G))) := ⟨zPre_blind, hrecv, fun U hU hW => ⟨rfl, zPre_of hC0 hR hH U hU hW⟩⟩
  have hstk2 : (F0 m pc ls (st.map (zTv (zad G)))).stack = (As.map (zTv (zad G))).reverse ++ .ref (zad G r0) :: rest.map (zTv (zad G)) := by rw [hstk, List.map_append, List.map_reverse]; rfl
  have hlen : ∀ sig, parseMethodDescriptor y.desc = some sig → np = sig.parameters.length := fun sig h => by
    rw [h] at l5
    exact (Option.some.inj l5).symm
  have hW2 : 2 * (F0 m pc ls (st.map (zTv (zad G)))).monitorRoom + ((rest.map (zTv (zad G))).map fun v => v.category).sum ≤ 8 := lv_room (by rw [zTv_cats]; exact hW)
  refine z_after (a := (Value.ref (zad G r0) :: As.map (zTv (zad G))).toArray) hC0 hR hL hn hnn ?_ hT X k
  rcases l1 with hw | ⟨h, hw⟩
  · exact va_runV (Ts := zT) ⟨hx, hb, hml, hown, hts⟩ hM ⟨⟨rfl, rfl, hR1, hR2, hpay, List.mem_cons_self, hts _ l2, hts _ l3, l4, hlen, hts _ hw⟩, hts _ hin, hts _ hse⟩ hpre rfl (by rw [List.length_map]; exact hn9) hL.1 hstk2 hW2 hd ⟨by omega, by omega⟩
  · exact va_runVN (Ts := zT) ⟨hx, hb, hml, hown, hts⟩ hM ⟨⟨⟨rfl, rfl, hR1, hR2, hpay, List.mem_cons_self⟩, hts _ l2, hts _ l3, l4, hlen, hns.use hw⟩, hts _ hin, hts _ hse⟩ hpre rfl (by rw [List.length_map]; exact hn9) hL.1 hstk2 hW2 hd ⟨by omega, by omega⟩
theorem e_callI {r0 : Nat} (hd : decode cc pc = .ok (.invokespecial idx, 3)) (hM : zMet G d y cc' nL' none (.ref r0 :: As) n mi ml mr n' Q) (hl : zML own idx y cc' nL' none np) (hin : Cond.instanceMethod y ∈ zT) (hy : y.name = "<init>") (hn9 : As.length = np) (hstk : st = As.reverse ++ .ref r0 :: rest) (hW : (rest.map fun v => v.category).sum ≤ 8) (hR1 : d + 1 ≤ R.frames) (hR2 : 8 + (nL' + 11) + 40 * d ≤ R.locals) (hnn : n ≤ n') (hn1 : n ≤ 1000) (hc : n' - n0 ≤ R.cells) (hs : zSl n' - zSl n0 ≤ R.slots)
    (k : ∀ r mi' ml' mr', Q r mi' ml' mr' → zE G R QQ own mn cc nL ret n0 (pc + 3) L (r.toList ++ rest) n' mi' ml' mr') : zE G R QQ own mn cc nL ret n0 pc L st n mi ml mr := by
  intro p e s m args below meth c H locs ls hC hR hL hn T hT X
  have hH := zSize hC hR hn hn1 hT rfl X
  have hC0 := hC
  obtain ⟨hx, hb, hrt, hml, hown, hts, hlk, hmn, hsz, had, hns, hout⟩ := hC
  obtain ⟨l1, l2, l3, l4, l5⟩ := hl
  have hgood := zT_good l2
  have hpay := pay_in hts hgood
  have hle1 := zSl_le hn
  have hle2 := zSl_le hnn
  have hpre : PreS s H (va_Pc ((Value.ref r0 :: As).map (zTv (zad G))) (zPre G n mi ml mr)) (.ref (zad G r0) :: As.map (zTv (zad G))) := ⟨zPre_blind, fun U hU hW => ⟨rfl, zPre_of hC0 hR hH U hU hW⟩⟩
  have hstk2 : (F0 m pc ls (st.map (zTv (zad G)))).stack = (As.map (zTv (zad G))).reverse ++ .ref (zad G r0) :: rest.map (zTv (zad G)) := by rw [hstk, List.map_append, List.map_reverse]; rfl
  have hlen : ∀ sig, parseMethodDescriptor y.desc = some sig → np = sig.parameters.length := fun sig h => by
    rw [h] at l5
    exact (Option.some.inj l5).symm
  have hW2 : 2 * (F0 m pc ls (st.map (zTv (zad G)))).monitorRoom + ((rest.map (zTv (zad G))).map fun v => v.category).sum ≤ 8 := lv_room (by rw [zTv_cats]; exact hW)
  refine z_after (a := (Value.ref (zad G r0) :: As.map (zTv (zad G))).toArray) hC0 hR hL hn hnn ?_ hT X k
  rcases l1 with hw | ⟨h, hw⟩
  · exact va_runI (Ts := zT) ⟨hx, hb, hml, hown, hts⟩ hM ⟨⟨rfl, rfl, hR1, hR2, hpay, List.mem_cons_self, hts _ l2, hts _ l3, l4, hlen, hts _ hw⟩, hy, hts _ hin⟩ hpre rfl (by rw [List.length_map]; exact hn9) hL.1 hstk2 hW2 hd ⟨by omega, by omega⟩
  · exact va_runIN (Ts := zT) ⟨hx, hb, hml, hown, hts⟩ hM ⟨⟨⟨rfl, rfl, hR1, hR2, hpay, List.mem_cons_self⟩, hts _ l2, hts _ l3, l4, hlen, hns.use hw⟩, hy, hts _ hin⟩ hpre rfl (by rw [List.length_map]; exact hn9) hL.1 hstk2 hW2 hd ⟨by omega, by omega⟩
/-- Object.<init> -/
theorem e_objInit (pc' : Nat) {r0 : Nat} (hd : decode cc pc = .ok (.invokespecial idx, 3)) (hw1 : Cond.methodLink own idx Lib.objectInit ∈ zT) (hw2 : Cond.instanceMethod Lib.objectInit ∈ zT) (hw3 : Cond.code Lib.objectInit ⟨#[0xb1]⟩ 1 none ∈ zT) (hp : pc + 3 = pc') (hR1 : 1 ≤ R.frames) (hW : (rest.map fun v => v.category).sum + 12 ≤ R.locals) (k : zE G R QQ own mn cc nL ret n0 pc' L rest n mi ml mr) : zE G R QQ own mn cc nL ret n0 pc L (.ref r0 :: rest) n mi ml mr := by
  intro p e s m args below meth c H locs ls hC hR hL hn
  subst hp
  have K := k p e s m args below meth c H locs ls hC hR hL hn
  obtain ⟨hx, hb, hrt, hml, hown, hts, hlk, hmn, hsz, had, hns, hout⟩ := hC
  refine W.objInit (rest := rest.map (zTv (zad G))) (a := zad G r0) hx hb hown (hts _ hw1) (hts _ hw2) (hts _ hw3) rfl (by rw [hml]; exact hL.1) rfl hd hR1 (by rw [zTv_cats]; show 2 * 0 + _ + 12 ≤ _; omega) ?_
  exact W.eq rfl K
/-- System.arraycopy between int arrays -/
theorem e_copy (pc' : Nat) {ra rb sp dp len : Nat} {isp idp ilen : Int32} (hd : decode cc pc = .ok (.invokestatic idx, 3)) (hw1 : Cond.methodLink own idx arraycopyName ∈ zT) (hw2 : Cond.native arraycopyName ∈ zT) (hw3 : Cond.static arraycopyName ∈ zT) (hw4 : Cond.initialized "java/lang/System" ∈ zT) (hp : pc + 3 = pc') (hka : zKD ra = 16) (hkb : zKD rb = 16) (hra : ra < n) (hrb : rb < n) (h1 : isp = nI sp) (h2 : idp = nI dp) (h3 : ilen = nI len) (h4 : sp + len ≤ zLN ra) (h5 : dp + len ≤ zLN rb) (hfr : 1 ≤ R.frames) (hlo : (rest.map fun v => v.category).sum + (nativeFrameWords "java/lang/System" "arraycopy" 5 + 11) ≤ R.locals)
    (k : zE G R QQ own mn cc nL ret n0 pc' L rest n (zu mi rb (va_cpy (mi ra) (mi rb) sp dp len)) ml mr) : zE G R QQ own mn cc nL ret n0 pc L (.int ilen :: .int idp :: .ref rb :: .int isp :: .ref ra :: rest) n mi ml mr := by
  intro p e s m args below meth c H locs ls hC hR hL hn
  subst hp
  subst h1
  subst h2
  subst h3
  have hC0 := hC
  obtain ⟨hx, hb, hrt, hml, hown, hts, hlk, hmn, hsz, had, hns, hout⟩ := hC
  have ba := zLN_le ra
  have bb := zLN_le rb
  have hea := zWs_get G mi ml mr hra
  have heb := zWs_get G mi ml mr hrb
  rw [zEnt_int hka (by decide) (by decide)] at hea
  rw [zEnt_int hkb (by decide) (by decide)] at heb
  have c1 : (nI sp).toNatClampNeg = sp := nI_clamp (by omega)
  have c2 : (nI dp).toNatClampNeg = dp := nI_clamp (by omega)
  have c3 : (nI len).toNatClampNeg = len := nI_clamp (by omega)
  refine va_copyi (rest := rest.map (zTv (zad G))) hx hb (by rw [hml]; exact hL.1.symm) hown (hts _ hw1) (hts _ hw2) (hts _ hw3) (hts _ hw4) hR.2.2.2.1 hR.2.1 hR.2.2.1 hR.1 ra rb 0 0 hea heb rfl rfl rfl (nI_pos (by omega)) (nI_pos (by omega)) (nI_pos (by omega)) (by rw [c1, c3]; exact h4) (by rw [c2, c3]; exact h5) (fun i hi => rfl) hfr (by rw [zTv_cats]; exact hlo) hd (fun H1 locs1 hP hD hS => ?_)
  rw [c1, c2, c3] at hP hD
  exact k p e s m args below meth c H1 locs1 ls hC0 (zRl_set hR hrb (by rw [zEnt_int hkb (by decide) (by decide), zu_s]) (fun q h => ⟨zu_n _ _ h, rfl, rfl⟩) hP hD hS) hL hn
/-- a reference into an array of them -/
theorem e_aast (pc' : Nat) {r j v : Nat} {i : Int32} (hd : decode cc pc = .ok (.aastore, 1)) (hp : pc + 1 = pc') (hk : (zKD r = 19 ∧ zKD v = 2) ∨ (zKD r = 20 ∧ zKD v = 3)) (hr : r < n) (hv : v < n) (hi : i = nI j) (hj : j < zLN r) (k : zE G R QQ own mn cc nL ret n0 pc' L st n mi ml (zp mr r j (some v))) : zE G R QQ own mn cc nL ret n0 pc L (.ref v :: .int i :: .ref r :: st) n mi ml mr := by
  intro p e s m args below meth c H locs ls hC hR hL hn
  subst hp
  subst hi
  have hb9 := zLN_le r
  have hcl : (nI j).toNatClampNeg = j := nI_clamp (by omega)
  have hin : vp_in (nI j) (zLN r) := vp_in_nI hj (by omega)
  have he := zWs_get G mi ml mr hr
  have hv9 := zWs_get G mi ml mr hv
  have fin : ∀ kd, zKD r = kd → 19 ≤ kd → ∀ (H1 : Heap) (locs1 : List Loc), va_P G.2.1 vwCl ((zWs G n mi ml mr).set r (zad G r, .inl (G.2.2.1 (kd - 16), zLN r, .inr (.inr (.inr (.inr (va_up (fun x => (mr r x).map (zad G)) (nI j).toNatClampNeg (some (zad G v))))))))) H1 → va_D (zA G) ((zWs G n mi ml mr).set r (zad G r, .inl (G.2.2.1 (kd - 16), zLN r, .inr (.inr (.inr (.inr (va_up (fun x => (mr r x).map (zad G)) (nI j).toNatClampNeg (some (zad G v))))))))) → va_S (zA G) s.heap H1 locs1 →
      W p G.1 e R s m args below meth c H1 locs1 (n - n0) (zSl n - zSl n0) (QQ below args s) (F0 m (pc + 1) ls (st.map (zTv (zad G)))) := by
    intro kd hkd hge H1 locs1 hP hD hS
    refine k p e s m args below meth c H1 locs1 ls hC (zRl_set hR hr ?_ (fun q h => ⟨rfl, rfl, zp_r _ _ _ h⟩) hP hD hS) hL hn
    rw [zEnt_ref hkd hge, zp_row, hcl]
    congr 1
    congr 1
    congr 1
    congr 1
    congr 1
    congr 1
    congr 1
    funext x
    by_cases hx : x = j
    · subst hx
      simp [zu, va_up]
    · simp [zu, va_up, hx]
  rcases hk with ⟨h1, h2⟩ | ⟨h1, h2⟩
  · rw [zEnt_ref h1 (by decide)] at he
    rw [zEnt_obj h2 (by decide)] at hv9
    exact va_astq (r := (RX2, TX2, 4)) hC.1 hC.2.1 hR.2.2.2.1 hR.2.1 hR.2.2.1 hR.1 r 3 v 2 he rfl hv9 rfl hin hd (fin 19 h1 (by decide))
  · rw [zEnt_ref h1 (by decide)] at he
    rw [zEnt_obj h2 (by decide)] at hv9
    exact va_astq (r := (RX3, TX3, 4)) hC.1 hC.2.1 hR.2.2.2.1 hR.2.1 hR.2.2.1 hR.1 r 4 v 3 he rfl hv9 rfl hin hd (fin 20 h1 (by decide))
end ZCALL

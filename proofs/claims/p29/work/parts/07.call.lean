section AWC
variable {w : WT} {P : Option Value → HS → Prop} {d : Nat} {mi : MI} {k : KT} {pc : Nat} {L : List (Option Value)} {st : List Value} {h : HS}
theorem aw_after {p : Program} {e : Env} {s : State} {m : MethodId} {args : Array Value} {below : List Frame} {meth : Method} {c : Code} {A A1 : Nat → Prop} {H : Heap} {lo : List Loc} {la : Array Slot} {stk : List Value} {P' : Option Value → HS → Prop} {a : Array Value} {R : Room} {Q : State → Prop}
    (hr : va_Run p w.1 e R s m args below meth c H lo 0 0 0 0 (F0 m pc la stk) st (aw_Q w A1 P' a) A1) (hS : va_S A s.heap H lo) (hA : ∀ q, A1 q → A q)
    (kk : ∀ (o : Option Value) (h' : HS) (H1 : Heap) (lo1 : List Loc), P' o h' → va_P w.2.1.1 vwCl (aw_w w h') H1 → va_S A s.heap H1 lo1 → W p w.1 e R s m args below meth c H1 lo1 0 0 Q (F0 m (pc + 3) la (o.toList ++ st))) : W p w.1 e R s m args below meth c H lo 0 0 Q (F0 m pc la stk) := by
  intro T hT X
  obtain ⟨v, st₀, t, T', Lc, h0, X', hL, e1, e2, ⟨⟨o, h', hv, hp, hb⟩, hz, hk⟩, stp⟩ := hr T hT X
  cases hv
  rw [h0] at hz hk
  obtain ⟨t2, a1, b1⟩ := kk v h' T'.heap (lo ++ Lc) hp (by rw [e1]; exact hb)
    ⟨Nat.le_trans hS.1 (by rw [e1]; exact hz), fun q h1 h2 => by rw [e1, hk q (Nat.lt_of_lt_of_le h1 hS.1) (fun z => h2 (hA q z))]; exact hS.2.1 q h1 h2, fun q hq => by
      rcases List.mem_append.mp hq with h | h
      · exact hS.2.2 q h
      · exact hA _ (hL q h)⟩ T' rfl X'
  exact ⟨t2, stp t2 a1, b1⟩
theorem aw_blind {av : List Value} {sz : Nat} : FrameBlind (va_Pc av (aw_B w h sz)) := by
  intro a U g mk q
  obtain ⟨q0, q1, qP, qK, qD, qN, qZ⟩ := q
  exact ⟨q0, q1, qP, va_K.moved (u := U) (U := U.calling g mk a) (Vm.Alike.refl U.vm) qK, qD, aw_N.same (s := U) (U := U.calling g mk a) rfl qN, qZ.go (U := U.calling g mk a) (Vm.Alike.refl U.vm) (fun _ _ _ _ q => vk_R.same (u := U) (U := U.calling g mk a) rfl q) (Nat.le_refl _) (fun _ _ _ => rfl) (fun _ h => h)⟩
theorem aw_AB {s : State} {A : Nat → Prop} {H : Heap} {lo : List Loc} (hA : ∀ q, s.heap.size ≤ q → A q) (hD : va_D A (aw_w w h)) (hS : va_S A s.heap H lo) : ∀ q, va_A (aw_w w h) H.size q → A q := by
  intro q hq
  rcases hq with ⟨i, e, hi⟩ | hq
  · exact hD.2 i _ hi
  · exact hA q (Nat.le_trans hS.1 hq)
theorem aw_pre {s : State} {A : Nat → Prop} {H : Heap} {lo : List Loc} {av : List Value} (hK : va_K w.2.1.1 vwCl (aw_tys w.2.1) s) (hA : ∀ q, s.heap.size ≤ q → A q) (hN : aw_N s) (hZ : aw_Z w.2.2.2 A s s.heap) (hP : va_P w.2.1.1 vwCl (aw_w w h) H) (hD : va_D A (aw_w w h)) (hS : va_S A s.heap H lo) :
    ∀ U : State, U.heap = H → s.WarmedH U.vm → va_Pc av (aw_B w h H.size) av.toArray U := by
  intro U hU hW
  exact ⟨rfl, by rw [hU], by rw [hU]; exact hP, va_K.moved hW.alike hK, hD.weaken (fun _ _ _ _ => trivial), hN.warm hW, by rw [hU]; exact hZ.go hW.alike (fun _ _ _ _ q => vk_R.warm hW q) hS.1 (fun a h1 h2 => hS.2.1 a h1 h2) (aw_AB hA hD hS)⟩
theorem aw_cb {s : State} {args : Array Value} {mi' : MI} {d' index na : Nat} (hts : ∀ w ∈ aw_ws mi, w.before args s = true) (mf : MF mi' na) (ml : ML mi.1.cls index mi') (hdd : d' < d) : CallB (aw_rm d) s args mi.1.cls index mi'.1 mi'.2.1 mi'.2.2.1 mi'.2.2.2 (aw_ws mi') (aw_rm d') 0 0 na := by
  obtain ⟨f1, f2, f3, f4⟩ := mf
  exact callB_of na hts (aw_goodIn f1) rfl rfl rfl (hts _ (List.mem_cons_of_mem _ f2)) (hts _ (List.mem_cons_of_mem _ ml)) f3 ⟨by show d' + 1 ≤ d; omega, by show 8 + (mi'.2.2.1 + 11) + 36 * d' ≤ 36 * d; omega⟩
/-- a call of a static method -/
theorem aw_callS (K : AOK w mi k) {mi' : MI} {d' index na : Nat} {As stk : List Value} {P' : Option Value → HS → Prop} (C : CT w d' mi' As h P') (hstk : stk = As.reverse ++ st) (hdd : d' < d) (mf : MFs mi' na) (ml : ML mi.1.cls index mi') (hd : decode mi.2.1 pc = .ok (.invokestatic index, 3)) (hna : As.length = na) (hst : (st.map fun v => v.category).sum ≤ 8)
    (n : ∀ o h', P' o h' → AW w P d mi k (pc + 3) L (o.toList ++ st) h') : AW w P d mi k pc L stk h := by
  subst hstk
  obtain ⟨p, e, s, m, args, below, meth, c, A⟩ := k
  obtain ⟨k1, k2, k3, k4, k5, k6, k7, k8, k9, k10, k11⟩ := K
  intro H lo la a1 a2 a3 a4
  refine aw_after (A := A) (va_runS (Ts := aw_ws mi) ⟨k1, k2, k3, k4, k5⟩ (C H.size) ⟨aw_cb k5 mf.1 ml hdd, k5 _ (List.mem_cons_of_mem _ mf.2)⟩ ⟨aw_blind, aw_pre k8 k9 k10 k11 a2 a3 a4⟩ rfl hna a1.1 rfl (lv_room hst) hd ⟨Nat.le_refl _, Nat.le_refl _⟩) a4 (aw_AB k9 a3 a4) (fun o h' H1 lo1 hp hP1 hS1 => ?_)
  exact n o h' hp H1 lo1 la a1 hP1 (aw_D_eq a3) hS1
/-- a call of a static method of a nest mate -/
theorem aw_callSN (K : AOK w mi k) {mi' : MI} {d' index na : Nat} {As stk : List Value} {P' : Option Value → HS → Prop} (C : CT w d' mi' As h P') (hstk : stk = As.reverse ++ st) (hdd : d' < d) (mf : MFs mi' na) (ml : MLN mi.1.cls index mi') (hd : decode mi.2.1 pc = .ok (.invokestatic index, 3)) (hna : As.length = na) (hst : (st.map fun v => v.category).sum ≤ 8)
    (n : ∀ o h', P' o h' → AW w P d mi k (pc + 3) L (o.toList ++ st) h') : AW w P d mi k pc L stk h := by
  subst hstk
  obtain ⟨p, e, s, m, args, below, meth, c, A⟩ := k
  obtain ⟨k1, k2, k3, k4, k5, k6, k7, k8, k9, k10, k11⟩ := K
  obtain ⟨⟨f1, f2, f3, f4⟩, f5⟩ := mf
  intro H lo la a1 a2 a3 a4
  refine aw_after (A := A) (va_runSN (Ts := aw_ws mi) ⟨k1, k2, k3, k4, k5⟩ (C H.size) ⟨va_cnB na k5 (aw_goodIn f1) rfl rfl rfl (k10.1 _ ml rfl) (k5 _ (List.mem_cons_of_mem _ f2)) f3 ⟨by show d' + 1 ≤ d; omega, by show 8 + (mi'.2.2.1 + 11) + 36 * d' ≤ 36 * d; omega⟩, k5 _ (List.mem_cons_of_mem _ f5), trivial⟩ ⟨aw_blind, aw_pre k8 k9 k10 k11 a2 a3 a4⟩ rfl hna a1.1 rfl (lv_room hst) hd ⟨Nat.le_refl _, Nat.le_refl _⟩) a4 (aw_AB k9 a3 a4) (fun o h' H1 lo1 hp hP1 hS1 => ?_)
  exact n o h' hp H1 lo1 la a1 hP1 (aw_D_eq a3) hS1
/-- a call on an object of the world -/
theorem aw_callV (K : AOK w mi k) {mi' : MI} {d' index na i ci n0 : Nat} {fs : List Nat} {As stk : List Value} {P' : Option Value → HS → Prop} (C : CT w d' mi' (.ref (w.2.1.2.1 i) :: As) h P') (hstk : stk = As.reverse ++ .ref (w.2.1.2.1 i) :: st) (hdd : d' < d) (mf : MFv mi' na) (ml : ML mi.1.cls index mi') (hd : decode mi.2.1 pc = .ok (.invokevirtual index, 3)) (hi : w.2.2.1[i]? = some (ci + 3, n0, fs)) (hc : CLS ci mi'.1.cls) (hna : As.length = na) (hst : (st.map fun v => v.category).sum ≤ 8)
    (n : ∀ o h', P' o h' → AW w P d mi k (pc + 3) L (o.toList ++ st) h') : AW w P d mi k pc L stk h := by
  subst hstk
  obtain ⟨p, e, s, m, args, below, meth, c, A⟩ := k
  obtain ⟨k1, k2, k3, k4, k5, k6, k7, k8, k9, k10, k11⟩ := K
  obtain ⟨q, c1, c2⟩ := hc
  intro H lo la a1 a2 a3 a4
  refine aw_after (A := A) (va_runV (C := mi'.1.cls) (b := w.2.1.2.1 i) (As := As) (rest := st) (Ts := aw_ws mi) ⟨k1, k2, k3, k4, k5⟩ (C H.size) ⟨aw_cb k5 mf.1 ml hdd, k5 _ (List.mem_cons_of_mem _ mf.2.1), k5 _ (List.mem_cons_of_mem _ mf.2.2)⟩ ⟨aw_blind, c2 ▸ va_recv k8 a2 c1 (aw_cz_at hi), aw_pre k8 k9 k10 k11 a2 a3 a4⟩ rfl hna a1.1 rfl (lv_room hst) hd ⟨Nat.le_refl _, Nat.le_refl _⟩) a4 (aw_AB k9 a3 a4) (fun o h' H1 lo1 hp hP1 hS1 => ?_)
  exact n o h' hp H1 lo1 la a1 hP1 (aw_D_eq a3) hS1
/-! ends that are told exactly -/
def DI (r : Int32) (h2 : HS) : Option Value → HS → Prop := fun o h' => o = some (.int r) ∧ h' = h2
def DL (r : Int64) (h2 : HS) : Option Value → HS → Prop := fun o h' => o = some (.long r) ∧ h' = h2
def DV (h2 : HS) : Option Value → HS → Prop := fun o h' => o = none ∧ h' = h2

theorem aw_callS_I (K : AOK w mi k) {mi' : MI} {d' index na : Nat} {As stk : List Value} {r : Int32} {h2 : HS} (C : CT w d' mi' As h (DI r h2)) (hstk : stk = As.reverse ++ st) (hdd : d' < d) (mf : MFs mi' na) (ml : ML mi.1.cls index mi') (hd : decode mi.2.1 pc = .ok (.invokestatic index, 3)) (hna : As.length = na) (hst : (st.map fun v => v.category).sum ≤ 8) (n : AW w P d mi k (pc + 3) L (.int r :: st) h2) : AW w P d mi k pc L stk h := aw_callS K C hstk hdd mf ml hd hna hst (fun o h' q => by obtain ⟨rfl, rfl⟩ := q; exact n)
theorem aw_callS_L (K : AOK w mi k) {mi' : MI} {d' index na : Nat} {As stk : List Value} {r : Int64} {h2 : HS} (C : CT w d' mi' As h (DL r h2)) (hstk : stk = As.reverse ++ st) (hdd : d' < d) (mf : MFs mi' na) (ml : ML mi.1.cls index mi') (hd : decode mi.2.1 pc = .ok (.invokestatic index, 3)) (hna : As.length = na) (hst : (st.map fun v => v.category).sum ≤ 8) (n : AW w P d mi k (pc + 3) L (.long r :: st) h2) : AW w P d mi k pc L stk h := aw_callS K C hstk hdd mf ml hd hna hst (fun o h' q => by obtain ⟨rfl, rfl⟩ := q; exact n)
theorem aw_callS_V (K : AOK w mi k) {mi' : MI} {d' index na : Nat} {As stk : List Value} {h2 : HS} (C : CT w d' mi' As h (DV h2)) (hstk : stk = As.reverse ++ st) (hdd : d' < d) (mf : MFs mi' na) (ml : ML mi.1.cls index mi') (hd : decode mi.2.1 pc = .ok (.invokestatic index, 3)) (hna : As.length = na) (hst : (st.map fun v => v.category).sum ≤ 8) (n : AW w P d mi k (pc + 3) L (st) h2) : AW w P d mi k pc L stk h := aw_callS K C hstk hdd mf ml hd hna hst (fun o h' q => by obtain ⟨rfl, rfl⟩ := q; exact n)
theorem aw_callSN_I (K : AOK w mi k) {mi' : MI} {d' index na : Nat} {As stk : List Value} {r : Int32} {h2 : HS} (C : CT w d' mi' As h (DI r h2)) (hstk : stk = As.reverse ++ st) (hdd : d' < d) (mf : MFs mi' na) (ml : MLN mi.1.cls index mi') (hd : decode mi.2.1 pc = .ok (.invokestatic index, 3)) (hna : As.length = na) (hst : (st.map fun v => v.category).sum ≤ 8) (n : AW w P d mi k (pc + 3) L (.int r :: st) h2) : AW w P d mi k pc L stk h := aw_callSN K C hstk hdd mf ml hd hna hst (fun o h' q => by obtain ⟨rfl, rfl⟩ := q; exact n)
theorem aw_callSN_L (K : AOK w mi k) {mi' : MI} {d' index na : Nat} {As stk : List Value} {r : Int64} {h2 : HS} (C : CT w d' mi' As h (DL r h2)) (hstk : stk = As.reverse ++ st) (hdd : d' < d) (mf : MFs mi' na) (ml : MLN mi.1.cls index mi') (hd : decode mi.2.1 pc = .ok (.invokestatic index, 3)) (hna : As.length = na) (hst : (st.map fun v => v.category).sum ≤ 8) (n : AW w P d mi k (pc + 3) L (.long r :: st) h2) : AW w P d mi k pc L stk h := aw_callSN K C hstk hdd mf ml hd hna hst (fun o h' q => by obtain ⟨rfl, rfl⟩ := q; exact n)
theorem aw_callSN_V (K : AOK w mi k) {mi' : MI} {d' index na : Nat} {As stk : List Value} {h2 : HS} (C : CT w d' mi' As h (DV h2)) (hstk : stk = As.reverse ++ st) (hdd : d' < d) (mf : MFs mi' na) (ml : MLN mi.1.cls index mi') (hd : decode mi.2.1 pc = .ok (.invokestatic index, 3)) (hna : As.length = na) (hst : (st.map fun v => v.category).sum ≤ 8) (n : AW w P d mi k (pc + 3) L (st) h2) : AW w P d mi k pc L stk h := aw_callSN K C hstk hdd mf ml hd hna hst (fun o h' q => by obtain ⟨rfl, rfl⟩ := q; exact n)
theorem aw_callV_I (K : AOK w mi k) {mi' : MI} {d' index na : Nat} {i ci n0 : Nat} {fs : List Nat} {As stk : List Value} {r : Int32} {h2 : HS} (C : CT w d' mi' (.ref (w.2.1.2.1 i) :: As) h (DI r h2)) (hstk : stk = As.reverse ++ .ref (w.2.1.2.1 i) :: st) (hdd : d' < d) (mf : MFv mi' na) (ml : ML mi.1.cls index mi') (hd : decode mi.2.1 pc = .ok (.invokevirtual index, 3)) (hi : w.2.2.1[i]? = some (ci + 3, n0, fs)) (hc : CLS ci mi'.1.cls) (hna : As.length = na) (hst : (st.map fun v => v.category).sum ≤ 8) (n : AW w P d mi k (pc + 3) L (.int r :: st) h2) : AW w P d mi k pc L stk h := aw_callV K C hstk hdd mf ml hd hi hc hna hst (fun o h' q => by obtain ⟨rfl, rfl⟩ := q; exact n)
theorem aw_callV_L (K : AOK w mi k) {mi' : MI} {d' index na : Nat} {i ci n0 : Nat} {fs : List Nat} {As stk : List Value} {r : Int64} {h2 : HS} (C : CT w d' mi' (.ref (w.2.1.2.1 i) :: As) h (DL r h2)) (hstk : stk = As.reverse ++ .ref (w.2.1.2.1 i) :: st) (hdd : d' < d) (mf : MFv mi' na) (ml : ML mi.1.cls index mi') (hd : decode mi.2.1 pc = .ok (.invokevirtual index, 3)) (hi : w.2.2.1[i]? = some (ci + 3, n0, fs)) (hc : CLS ci mi'.1.cls) (hna : As.length = na) (hst : (st.map fun v => v.category).sum ≤ 8) (n : AW w P d mi k (pc + 3) L (.long r :: st) h2) : AW w P d mi k pc L stk h := aw_callV K C hstk hdd mf ml hd hi hc hna hst (fun o h' q => by obtain ⟨rfl, rfl⟩ := q; exact n)
theorem aw_callV_V (K : AOK w mi k) {mi' : MI} {d' index na : Nat} {i ci n0 : Nat} {fs : List Nat} {As stk : List Value} {h2 : HS} (C : CT w d' mi' (.ref (w.2.1.2.1 i) :: As) h (DV h2)) (hstk : stk = As.reverse ++ .ref (w.2.1.2.1 i) :: st) (hdd : d' < d) (mf : MFv mi' na) (ml : ML mi.1.cls index mi') (hd : decode mi.2.1 pc = .ok (.invokevirtual index, 3)) (hi : w.2.2.1[i]? = some (ci + 3, n0, fs)) (hc : CLS ci mi'.1.cls) (hna : As.length = na) (hst : (st.map fun v => v.category).sum ≤ 8) (n : AW w P d mi k (pc + 3) L (st) h2) : AW w P d mi k pc L stk h := aw_callV K C hstk hdd mf ml hd hi hc hna hst (fun o h' q => by obtain ⟨rfl, rfl⟩ := q; exact n)
/-! constants of the pool -/
theorem aw_ldc (K : AOK w mi k) {index : Nat} {v : Int32} (hc : Cond.constant mi.1.cls index v ∈ aw_tb) (hd : decode mi.2.1 pc = .ok (.ldc index, 2)) (n : AW w P d mi k (pc + 2) L (.int v :: st) h) : AW w P d mi k pc L st h := by
  obtain ⟨p, e, s, m, args, below, meth, c, A⟩ := k
  obtain ⟨k1, k2, k3, k4, k5, k6, k7, k8, k9, k10, k11⟩ := K
  exact fun H lo la a1 a2 a3 a4 => lv_ldc k1 k2 k4 (k5 _ (List.mem_cons_of_mem _ hc)) hd (n H lo la a1 a2 a3 a4)
theorem aw_ldcw (K : AOK w mi k) {index : Nat} {v : Int32} (hc : Cond.constant mi.1.cls index v ∈ aw_tb) (hd : decode mi.2.1 pc = .ok (.ldc_w index, 3)) (n : AW w P d mi k (pc + 3) L (.int v :: st) h) : AW w P d mi k pc L st h := by
  obtain ⟨p, e, s, m, args, below, meth, c, A⟩ := k
  obtain ⟨k1, k2, k3, k4, k5, k6, k7, k8, k9, k10, k11⟩ := K
  exact fun H lo la a1 a2 a3 a4 => lv_ldcw k1 k2 k4 (k5 _ (List.mem_cons_of_mem _ hc)) hd (n H lo la a1 a2 a3 a4)
theorem aw_ldc2 (K : AOK w mi k) {index : Nat} {v : Int64} (hc : Cond.constantLong mi.1.cls index v ∈ aw_tb) (hd : decode mi.2.1 pc = .ok (.ldc2_w index, 3)) (n : AW w P d mi k (pc + 3) L (.long v :: st) h) : AW w P d mi k pc L st h := by
  obtain ⟨p, e, s, m, args, below, meth, c, A⟩ := k
  obtain ⟨k1, k2, k3, k4, k5, k6, k7, k8, k9, k10, k11⟩ := K
  exact fun H lo la a1 a2 a3 a4 => lv_ldc2 k1 k2 k4 (k5 _ (List.mem_cons_of_mem _ hc)) hd (n H lo la a1 a2 a3 a4)
/-! the static rows of rules -/
def aw_sn (i : Nat) : String := if i = 0 then "RULES_AT_FIRST" else if i = 1 then "RULES_LEAST" else "RULES_MOST"
def aw_sf (i : Nat) : Nat → Int32 := if i = 0 then aw_r0 else if i = 1 then aw_r1 else aw_r2
theorem aw_Z.at {sta : Nat → Nat} {A : Nat → Prop} {U : State} {H : Heap} (h : aw_Z sta A U H) (i : Nat) (hi : i < 3) : aw_Z1 (aw_sn i) (aw_sf i) (sta i) A U H := by
  match i, hi with
  | 0, _ => exact h.1
  | 1, _ => exact h.2.1
  | 2, _ => exact h.2.2.1
theorem aw_gets (K : AOK w mi k) {index i : Nat} (hi : i < 3) (hl : Cond.fieldLink mi.1.cls index "ManyNames" (aw_sn i) "[I" ∈ aw_tb) (hd : decode mi.2.1 pc = .ok (.getstatic index, 3)) (n : AW w P d mi k (pc + 3) L (.ref (w.2.2.2 i) :: st) h) : AW w P d mi k pc L st h := by
  obtain ⟨p, e, s, m, args, below, meth, c, A⟩ := k
  obtain ⟨k1, k2, k3, k4, k5, k6, k7, k8, k9, k10, k11⟩ := K
  exact fun H lo la a1 a2 a3 a4 => va_gets k1 k2 (k11.at i hi).1 a4 k4 (k5 _ (List.mem_cons_of_mem _ hl)) (fun _ hx => hx) hd (n H lo la a1 a2 a3 a4)
theorem aw_getsN (K : AOK w mi k) {index i : Nat} (hi : i < 3) (hl : Cond.fieldLinkNest mi.1.cls index "ManyNames" (aw_sn i) "[I" "ManyNames" ∈ lw_tbl) (hd : decode mi.2.1 pc = .ok (.getstatic index, 3)) (n : AW w P d mi k (pc + 3) L (.ref (w.2.2.2 i) :: st) h) : AW w P d mi k pc L st h := by
  obtain ⟨p, e, s, m, args, below, meth, c, A⟩ := k
  obtain ⟨k1, k2, k3, k4, k5, k6, k7, k8, k9, k10, k11⟩ := K
  exact fun H lo la a1 a2 a3 a4 => va_getsN k1 k2 (k11.at i hi).1 a4 k4 (va_Nw.use rfl (k10.1 _ hl rfl)) (fun _ hx => hx) hd (n H lo la a1 a2 a3 a4)
theorem aw_sld (K : AOK w mi k) {i : Nat} {x : Int32} (hi : i < 3) (hd : decode mi.2.1 pc = .ok (.iaload, 1)) (hx : vp_in x 10) (n : AW w P d mi k (pc + 1) L (.int (aw_sf i x.toNatClampNeg) :: st) h) : AW w P d mi k pc L (.int x :: .ref (w.2.2.2 i) :: st) h := by
  obtain ⟨p, e, s, m, args, below, meth, c, A⟩ := k
  obtain ⟨k1, k2, k3, k4, k5, k6, k7, k8, k9, k10, k11⟩ := K
  have hz := k11.at i hi
  exact fun H lo la a1 a2 a3 a4 => va_sld k1 k2 hz.2.1 hz.2.2.1 hz.2.2.2 a4 hx hd (n H lo la a1 a2 a3 a4)
/-! System.arraycopy -/
def CPW (own : String) (index : Nat) : Prop := Cond.methodLink own index arraycopyName ∈ aw_tb ∧ Cond.native arraycopyName ∈ lw_tbl ∧ Cond.static arraycopyName ∈ aw_tb ∧ Cond.initialized "java/lang/System" ∈ aw_tb
theorem aw_copyS (K : AOK w mi k) {index i q n0 : Nat} {fs : List Nat} {sp dp n1 : Int32} (hi : i < 3) (cp : CPW mi.1.cls index) (hnat : Cond.native arraycopyName ∈ aw_tb) (hq : w.2.2.1[q]? = some (0, n0, fs)) (h1 : ¬ sp < 0) (h2 : ¬ dp < 0) (h3 : ¬ n1 < 0) (h4 : sp.toNatClampNeg + n1.toNatClampNeg ≤ 10) (h5 : dp.toNatClampNeg + n1.toNatClampNeg ≤ n0) (hf : 1 ≤ d) (hlo : (st.map fun v => v.category).sum + (nativeFrameWords "java/lang/System" "arraycopy" 5 + 11) ≤ 36 * d) (hd : decode mi.2.1 pc = .ok (.invokestatic index, 3))
    (n : AW w P d mi k (pc + 3) L st (setR h q (va_cpy (aw_sf i) (h.1 q) sp.toNatClampNeg dp.toNatClampNeg n1.toNatClampNeg))) : AW w P d mi k pc L (.int n1 :: .int dp :: .ref (w.2.1.2.1 q) :: .int sp :: .ref (w.2.2.2 i) :: st) h := by
  obtain ⟨p, e, s, m, args, below, meth, c, A⟩ := k
  obtain ⟨k1, k2, k3, k4, k5, k6, k7, k8, k9, k10, k11⟩ := K
  have hz := k11.at i hi
  intro H lo la a1 a2 a3 a4
  refine va_copyx k1 k2 (k3.trans a1.1.symm) k4 (k5 _ (List.mem_cons_of_mem _ cp.1)) (k5 _ (List.mem_cons_of_mem _ hnat)) (k5 _ (List.mem_cons_of_mem _ cp.2.2.1)) (k5 _ (List.mem_cons_of_mem _ cp.2.2.2)) k8 a2 a3 a4 hz.2.1 hz.2.2.1 hz.2.2.2 q 0 (aw_cz_at hq) rfl h1 h2 h3 h4 h5 hf hlo hd (fun H1 lo1 b2 b3 b4 => ?_)
  rw [aw_rowset hq] at b2 b3
  exact n H1 lo1 la a1 b2 b3 b4
theorem aw_copy (K : AOK w mi k) {index i q n0 n2 : Nat} {fs fs2 : List Nat} {sp dp n1 : Int32} (cp : CPW mi.1.cls index) (hnat : Cond.native arraycopyName ∈ aw_tb) (hi : w.2.2.1[i]? = some (0, n2, fs2)) (hq : w.2.2.1[q]? = some (0, n0, fs)) (h1 : ¬ sp < 0) (h2 : ¬ dp < 0) (h3 : ¬ n1 < 0) (h4 : sp.toNatClampNeg + n1.toNatClampNeg ≤ n2) (h5 : dp.toNatClampNeg + n1.toNatClampNeg ≤ n0) (hf : 1 ≤ d) (hlo : (st.map fun v => v.category).sum + (nativeFrameWords "java/lang/System" "arraycopy" 5 + 11) ≤ 36 * d) (hd : decode mi.2.1 pc = .ok (.invokestatic index, 3))
    (n : AW w P d mi k (pc + 3) L st (setR h q (va_cpy (h.1 i) (h.1 q) sp.toNatClampNeg dp.toNatClampNeg n1.toNatClampNeg))) : AW w P d mi k pc L (.int n1 :: .int dp :: .ref (w.2.1.2.1 q) :: .int sp :: .ref (w.2.1.2.1 i) :: st) h := by
  obtain ⟨p, e, s, m, args, below, meth, c, A⟩ := k
  obtain ⟨k1, k2, k3, k4, k5, k6, k7, k8, k9, k10, k11⟩ := K
  intro H lo la a1 a2 a3 a4
  refine va_copyi k1 k2 (k3.trans a1.1.symm) k4 (k5 _ (List.mem_cons_of_mem _ cp.1)) (k5 _ (List.mem_cons_of_mem _ hnat)) (k5 _ (List.mem_cons_of_mem _ cp.2.2.1)) (k5 _ (List.mem_cons_of_mem _ cp.2.2.2)) k8 a2 a3 a4 i q 0 0 (aw_cz_at hi) (aw_cz_at hq) rfl rfl rfl h1 h2 h3 h4 h5 (fun _ _ => rfl) hf hlo hd (fun H1 lo1 b2 b3 b4 => ?_)
  rw [aw_rowset hq] at b2 b3
  exact n H1 lo1 la a1 b2 b3 b4
/-! Math -/
theorem aw_mmax (K : AOK w mi k) {index : Nat} {x y : Int32} (c1 : Cond.methodLink mi.1.cls index Lib.Math.max.name ∈ aw_tb) (c2 : Cond.static Lib.Math.max.name ∈ aw_tb) (c3 : Cond.initialized "java/lang/Math" ∈ aw_tb) (c4 : Cond.code Lib.Math.max.name Lib.Math.max.code 2 (some .int) ∈ aw_tb) (hf : 1 ≤ d) (hlo : (st.map fun v => v.category).sum + 13 ≤ 36 * d) (hd : decode mi.2.1 pc = .ok (.invokestatic index, 3))
    (n : AW w P d mi k (pc + 3) L (.int (if x < y then y else x) :: st) h) : AW w P d mi k pc L (.int y :: .int x :: st) h := by
  obtain ⟨p, e, s, m, args, below, meth, c, A⟩ := k
  obtain ⟨k1, k2, k3, k4, k5, k6, k7, k8, k9, k10, k11⟩ := K
  exact fun H lo la a1 a2 a3 a4 => va_mmax k1 k2 (k3.trans a1.1.symm) k4 (k5 _ (List.mem_cons_of_mem _ c1)) (k5 _ (List.mem_cons_of_mem _ c2)) (k5 _ (List.mem_cons_of_mem _ c3)) (k5 _ (List.mem_cons_of_mem _ c4)) hf hlo (Nat.zero_le _) (Nat.zero_le _) hd (n H lo la a1 a2 a3 a4)
theorem aw_mmin (K : AOK w mi k) {index : Nat} {x y : Int32} (c1 : Cond.methodLink mi.1.cls index Lib.Math.min.name ∈ aw_tb) (c2 : Cond.static Lib.Math.min.name ∈ aw_tb) (c3 : Cond.initialized "java/lang/Math" ∈ aw_tb) (c4 : Cond.code Lib.Math.min.name Lib.Math.min.code 2 (some .int) ∈ aw_tb) (hf : 1 ≤ d) (hlo : (st.map fun v => v.category).sum + 13 ≤ 36 * d) (hd : decode mi.2.1 pc = .ok (.invokestatic index, 3))
    (n : AW w P d mi k (pc + 3) L (.int (if y < x then y else x) :: st) h) : AW w P d mi k pc L (.int y :: .int x :: st) h := by
  obtain ⟨p, e, s, m, args, below, meth, c, A⟩ := k
  obtain ⟨k1, k2, k3, k4, k5, k6, k7, k8, k9, k10, k11⟩ := K
  exact fun H lo la a1 a2 a3 a4 => va_mmin k1 k2 (k3.trans a1.1.symm) k4 (k5 _ (List.mem_cons_of_mem _ c1)) (k5 _ (List.mem_cons_of_mem _ c2)) (k5 _ (List.mem_cons_of_mem _ c3)) (k5 _ (List.mem_cons_of_mem _ c4)) hf hlo (Nat.zero_le _) (Nat.zero_le _) hd (n H lo la a1 a2 a3 a4)
/-! switches -/
def aw_sw (pc : Nat) (x : Int32) (F : Nat → Prop) : Int → List Int → Prop
  | _, [] => True
  | v, off :: r => (x.toInt = v → F ((pc : Int) + off).toNat) ∧ aw_sw pc x F (v + 1) r
def aw_swp (pc : Nat) : List Int → Bool
  | [] => true
  | off :: r => decide (0 ≤ (pc : Int) + off) && aw_swp pc r
theorem aw_sw_at {pc : Nat} {x : Int32} {F : Nat → Prop} : ∀ (offs : List Int) (lo : Int) (i : Nat) (off : Int), aw_sw pc x F lo offs → aw_swp pc offs = true → offs[i]? = some off → x.toInt = lo + i → F ((pc : Int) + off).toNat ∧ 0 ≤ (pc : Int) + off
  | [], lo, i, off, _, _, h, _ => by simp at h
  | o :: r, lo, 0, off, hs, hp, h, hx => by
    simp at h
    subst h
    simp only [aw_swp, Bool.and_eq_true, decide_eq_true_eq] at hp
    exact ⟨hs.1 (by simpa using hx), hp.1⟩
  | o :: r, lo, i + 1, off, hs, hp, h, hx => by
    simp only [aw_swp, Bool.and_eq_true, decide_eq_true_eq] at hp
    exact aw_sw_at r (lo + 1) i off hs.2 hp.2 (by simpa using h) (by rw [hx]; push_cast; omega)
theorem aw_tsw (K : AOK w mi k) {dflt lo hi : Int} {offs : Array Int} {len tgt : Nat} {x : Int32} (hd : decode mi.2.1 pc = .ok (.tableswitch dflt lo hi offs, len)) (ht : (pc : Int) + dflt = (tgt : Int)) (hsz : lo + offs.size = hi + 1) (hp : aw_swp pc offs.toList = true)
    (hs : aw_sw pc x (fun t => AW w P d mi k t L st h) lo offs.toList) (hdef : (x.toInt < lo ∨ hi < x.toInt) → AW w P d mi k tgt L st h) : AW w P d mi k pc L (.int x :: st) h := by
  by_cases hx : x.toInt < lo ∨ hi < x.toInt
  · have hn := hdef hx
    obtain ⟨p, e, s, m, args, below, meth, c, A⟩ := k
    exact fun H l1 la a1 a2 a3 a4 => lv_tableOut K.1 K.2.1 hd hx ht (hn H l1 la a1 a2 a3 a4)
  · have h1 : ¬ x.toInt < lo := fun q => hx (Or.inl q)
    have h2 : ¬ hi < x.toInt := fun q => hx (Or.inr q)
    have hlt : (x.toInt - lo).toNat < offs.size := by omega
    obtain ⟨hF, h0⟩ := aw_sw_at offs.toList lo (x.toInt - lo).toNat offs[(x.toInt - lo).toNat] hs hp (by rw [Array.getElem?_toList]; exact Array.getElem?_eq_getElem hlt) (by omega)
    obtain ⟨p, e, s, m, args, below, meth, c, A⟩ := k
    exact fun H l1 la a1 a2 a3 a4 => lv_tableIn K.1 K.2.1 hd h1 h2 (Array.getElem?_eq_getElem hlt) (by omega) (hF H l1 la a1 a2 a3 a4)
end AWC

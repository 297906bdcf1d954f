section LWQ
variable {x : GT} {Q : State → Prop} {k : KT} {kc kn pc : Nat} {L : List (Option Value)} {st : List Value}
theorem gw_callL_r (K : GOK x k) {ad : Nat → Nat} {lay : List SP} {h : HS} {wr : va_W} {mi' : MI} {d' index na i ci n0 : Nat} {fs : List Nat} {As stk : List Value} {r : Int32} (C : CT (gw_wt x.1 ad lay) d' mi' (.ref (ad i) :: As) h (DR r)) (hstk : stk = As.reverse ++ .ref (ad i) :: st) (hdd : d' < x.2.1.1) (mf : MFv mi' na) (ml : ML x.2.2.2.2 index mi') (hd : decode x.2.2.1 pc = .ok (.invokevirtual index, 3)) (hi : lay[i]? = some (ci + 3, n0, fs)) (hc : CLS ci mi'.1.cls) (hna : As.length = na) (hst : (st.map fun v => v.category).sum ≤ 8) (hkc : kc ≤ x.2.1.2.1) (hkn : kn ≤ x.2.1.2.2)
    (n : ∀ h', GW x Q k (aw_w (gw_wt x.1 ad lay) h' ++ wr) kc kn (pc + 3) L (.int r :: st)) : GW x Q k (aw_w (gw_wt x.1 ad lay) h ++ wr) kc kn pc L stk := gw_callL K C hstk hdd mf ml hd hi hc hna hst hkc hkn (fun o h' hq => by cases hq; exact n h')
theorem gw_callL_l (K : GOK x k) {ad : Nat → Nat} {lay : List SP} {h : HS} {wr : va_W} {mi' : MI} {d' index na i ci n0 : Nat} {fs : List Nat} {As stk : List Value} {r : Int64} (C : CT (gw_wt x.1 ad lay) d' mi' (.ref (ad i) :: As) h ((fun o _ => o = some (.long r)))) (hstk : stk = As.reverse ++ .ref (ad i) :: st) (hdd : d' < x.2.1.1) (mf : MFv mi' na) (ml : ML x.2.2.2.2 index mi') (hd : decode x.2.2.1 pc = .ok (.invokevirtual index, 3)) (hi : lay[i]? = some (ci + 3, n0, fs)) (hc : CLS ci mi'.1.cls) (hna : As.length = na) (hst : (st.map fun v => v.category).sum ≤ 8) (hkc : kc ≤ x.2.1.2.1) (hkn : kn ≤ x.2.1.2.2)
    (n : ∀ h', GW x Q k (aw_w (gw_wt x.1 ad lay) h' ++ wr) kc kn (pc + 3) L (.long r :: st)) : GW x Q k (aw_w (gw_wt x.1 ad lay) h ++ wr) kc kn pc L stk := gw_callL K C hstk hdd mf ml hd hi hc hna hst hkc hkn (fun o h' hq => by cases hq; exact n h')
theorem gw_callR_r (K : GOK x k) {ad : Nat → Nat} {lay : List SP} {h : HS} {wl : va_W} {mi' : MI} {d' index na i ci n0 : Nat} {fs : List Nat} {As stk : List Value} {r : Int32} (C : CT (gw_wt x.1 ad lay) d' mi' (.ref (ad i) :: As) h (DR r)) (hstk : stk = As.reverse ++ .ref (ad i) :: st) (hdd : d' < x.2.1.1) (mf : MFv mi' na) (ml : ML x.2.2.2.2 index mi') (hd : decode x.2.2.1 pc = .ok (.invokevirtual index, 3)) (hi : lay[i]? = some (ci + 3, n0, fs)) (hc : CLS ci mi'.1.cls) (hna : As.length = na) (hst : (st.map fun v => v.category).sum ≤ 8) (hkc : kc ≤ x.2.1.2.1) (hkn : kn ≤ x.2.1.2.2)
    (n : ∀ h', GW x Q k (wl ++ aw_w (gw_wt x.1 ad lay) h') kc kn (pc + 3) L (.int r :: st)) : GW x Q k (wl ++ aw_w (gw_wt x.1 ad lay) h) kc kn pc L stk := gw_callR K C hstk hdd mf ml hd hi hc hna hst hkc hkn (fun o h' hq => by cases hq; exact n h')
theorem gw_callR_l (K : GOK x k) {ad : Nat → Nat} {lay : List SP} {h : HS} {wl : va_W} {mi' : MI} {d' index na i ci n0 : Nat} {fs : List Nat} {As stk : List Value} {r : Int64} (C : CT (gw_wt x.1 ad lay) d' mi' (.ref (ad i) :: As) h ((fun o _ => o = some (.long r)))) (hstk : stk = As.reverse ++ .ref (ad i) :: st) (hdd : d' < x.2.1.1) (mf : MFv mi' na) (ml : ML x.2.2.2.2 index mi') (hd : decode x.2.2.1 pc = .ok (.invokevirtual index, 3)) (hi : lay[i]? = some (ci + 3, n0, fs)) (hc : CLS ci mi'.1.cls) (hna : As.length = na) (hst : (st.map fun v => v.category).sum ≤ 8) (hkc : kc ≤ x.2.1.2.1) (hkn : kn ≤ x.2.1.2.2)
    (n : ∀ h', GW x Q k (wl ++ aw_w (gw_wt x.1 ad lay) h') kc kn (pc + 3) L (.long r :: st)) : GW x Q k (wl ++ aw_w (gw_wt x.1 ad lay) h) kc kn pc L stk := gw_callR K C hstk hdd mf ml hd hi hc hna hst hkc hkn (fun o h' hq => by cases hq; exact n h')
end LWQ
theorem gw_lret {z : G6} {p : Program} {e : Env} {s : State} {m : MethodId} {below : List Frame} {meth : Method} {c : Code} {b : Nat} {ws : va_W} {kc kn pc : Nat} {L : List (Option Value)} (hret : meth.sig.returnType = ret) (K : GOK (z, (13, 600000, 7302250), code, 4, RL) (p, e, s, m, #[Value.ref b], below, meth, c, fun q => s.heap.size ≤ q)) (hd : decode code pc = .ok (.ireturn, 1)) (hkc : kc ≤ 600000) (hkn : kn ≤ 7302250) :
    GW (z, (13, 600000, 7302250), code, 4, RL) (lw_Z below #[Value.ref b] s) (p, e, s, m, #[Value.ref b], below, meth, c, fun q => s.heap.size ≤ q) ws kc kn pc L [.int 1] :=
  fun H lo la a1 a2 a3 a4 => va_forget (fun q hq => a4.2.2 q hq) (W.widen hkc hkn (lw_ret K.1 K.2.1 hret K.2.2.2.2.2.1 hd))
theorem fX : XF hX0 := ⟨rfl, rfl, rfl, rfl, rfl, rfl, rfl, fun j hj => by
  have e : hX0.1 11 j = va_cpy (aw_sf 0) (fun _ => 0) 0 0 10 j := rfl
  rw [e, pk_cpy_in (Nat.zero_le _) (by omega), Nat.zero_add, Nat.sub_zero]
  rfl, rfl, rfl, rfl, rfl⟩
theorem fM : MF0 hM0 := ⟨rfl, rfl, rfl, rfl, rfl, rfl, rfl, fun j hj => by
  show prf _ _ 10 j = _
  simp only [prf, if_pos hj]
  show prf _ _ 10 j = _
  simp only [prf, if_pos hj], fun j hj => by
  match j, hj with
  | 0, _ => rfl
  | 1, _ => rfl
  | 2, _ => rfl
  | 3, _ => rfl⟩
set_option maxHeartbeats 8000000 in
set_option maxRecDepth 100000 in
theorem law_next {z : G6} {p : Program} {e : Env} {s : State} {m : MethodId} {below : List Frame} {meth : Method} {c : Code} {b : Nat} {xs : Nat → Int32} {adX adM : Nat → Nat} {kc kn : Nat} (hret : meth.sig.returnType = ret) (K : GOK (z, (13, 600000, 7302250), code, 4, RL) (p, e, s, m, #[Value.ref b], below, meth, c, fun q => s.heap.size ≤ q)) (S : SXP (p, e, s, m, #[Value.ref b], below, meth, c, fun q => s.heap.size ≤ q) b 5 xs) (hkc : kc ≤ 600000) (hkn : kn ≤ 7302250) (ws : va_W) : GW (z, (13, 600000, 7302250), code, 4, RL) (lw_Z below #[Value.ref b] s) (p, e, s, m, #[Value.ref b], below, meth, c, fun q => s.heap.size ≤ q) (ws) kc kn 1301 [some (.ref b), some (.ref (adX 0)), some (.ref (adM 0)), some (.int 0)] [] := by
  refine gw_ii3 (v2 := 5) K dL_law_1301 (by decide) (Nat.le_of_ble_eq_true rfl) rfl ?_
  refine gw_goto (tgt := 18) K dL_law_1304 (by decide) ?_
  refine gw_il3 K dL_law_18 ?_
  refine gw_al0 K dL_law_19 ?_
  refine gw_slen K S dL_law_20 ?_
  refine gw_iconst (v := 5) K dL_law_21 (by decide) ?_
  refine gw_isub K dL_law_22 ?_
  refine gw_icmp_gt (tgt := 1307) K dL_law_23 (by decide) (fun _ => ?_) (fun b23 => absurd (by decide) b23)
  refine gw_iconst (v := 1) K dL_law_1307 (by decide) ?_
  exact gw_lret hret K dL_law_1308 hkc hkn
set_option maxHeartbeats 8000000 in
set_option maxRecDepth 100000 in
theorem law_c0 {z : G6} {p : Program} {e : Env} {s : State} {m : MethodId} {below : List Frame} {meth : Method} {c : Code} {b : Nat} {xs : Nat → Int32} {adX adM : Nat → Nat} {kc kn : Nat} (hret : meth.sig.returnType = ret) (K : GOK (z, (13, 600000, 7302250), code, 4, RL) (p, e, s, m, #[Value.ref b], below, meth, c, fun q => s.heap.size ≤ q)) (S : SXP (p, e, s, m, #[Value.ref b], below, meth, c, fun q => s.heap.size ≤ q) b 5 xs) (hkc : kc ≤ 600000) (hkn : kn ≤ 7302250) : GW (z, (13, 600000, 7302250), code, 4, RL) (lw_Z below #[Value.ref b] s) (p, e, s, m, #[Value.ref b], below, meth, c, fun q => s.heap.size ≤ q) (aw_w (gw_wt z adX layX) hX0 ++ aw_w (gw_wt z adM layM) hM0) kc kn 188 [some (.ref b), some (.ref (adX 0)), some (.ref (adM 0)), some (.int 0)] [] := by
  refine gw_al1 K dL_law_188 ?_
  refine gw_al0 K dL_law_189 ?_
  refine gw_il3 K dL_law_190 ?_
  refine gw_iconst (v := 1) K dL_law_191 (by decide) ?_
  refine gw_iadd K dL_law_192 ?_
  refine gw_sld K S dL_law_193 (vp_in_nI (n := 1) (N := 5) (by decide) (by decide)) ?_
  refine gw_callL_r K (uX6_name z.1 (z.2.1, adX, z.2.2.1, z.2.2.2.1, z.2.2.2.2.1) z.2.2.2.2.2 _ _ fX) (i := 0) rfl (Nat.le_of_ble_eq_true rfl) fX6_name lL_13 dL_law_194 rfl clsX6 rfl (Nat.le_of_ble_eq_true rfl) hkc hkn (fun h0 => ?_)
  refine gw_al2 K dL_law_197 ?_
  refine gw_al0 K dL_law_198 ?_
  refine gw_il3 K dL_law_199 ?_
  refine gw_iconst (v := 1) K dL_law_200 (by decide) ?_
  refine gw_iadd K dL_law_201 ?_
  refine gw_sld K S dL_law_202 (vp_in_nI (n := 1) (N := 5) (by decide) (by decide)) ?_
  refine gw_callR_r K (uX7_name z.1 (z.2.1, adM, z.2.2.1, z.2.2.2.1, z.2.2.2.2.1) z.2.2.2.2.2 _ _ fM) (i := 0) rfl (Nat.le_of_ble_eq_true rfl) fX7_name lL_17 dL_law_203 rfl clsX7 rfl (Nat.le_of_ble_eq_true rfl) hkc hkn (fun h1 => ?_)
  refine gw_icmp_eq (tgt := 1301) K dL_law_206 (by decide) (fun _ => ?_) (fun q => absurd rfl q)
  exact law_next hret K S hkc hkn _
set_option maxHeartbeats 8000000 in
set_option maxRecDepth 100000 in
theorem law_c1 {z : G6} {p : Program} {e : Env} {s : State} {m : MethodId} {below : List Frame} {meth : Method} {c : Code} {b : Nat} {xs : Nat → Int32} {adX adM : Nat → Nat} {kc kn : Nat} (hret : meth.sig.returnType = ret) (K : GOK (z, (13, 600000, 7302250), code, 4, RL) (p, e, s, m, #[Value.ref b], below, meth, c, fun q => s.heap.size ≤ q)) (S : SXP (p, e, s, m, #[Value.ref b], below, meth, c, fun q => s.heap.size ≤ q) b 5 xs) (hkc : kc ≤ 600000) (hkn : kn ≤ 7302250) : GW (z, (13, 600000, 7302250), code, 4, RL) (lw_Z below #[Value.ref b] s) (p, e, s, m, #[Value.ref b], below, meth, c, fun q => s.heap.size ≤ q) (aw_w (gw_wt z adX layX) hX0 ++ aw_w (gw_wt z adM layM) hM0) kc kn 211 [some (.ref b), some (.ref (adX 0)), some (.ref (adM 0)), some (.int 0)] [] := by
  refine gw_al1 K dL_law_211 ?_
  refine gw_al0 K dL_law_212 ?_
  refine gw_il3 K dL_law_213 ?_
  refine gw_iconst (v := 1) K dL_law_214 (by decide) ?_
  refine gw_iadd K dL_law_215 ?_
  refine gw_sld K S dL_law_216 (vp_in_nI (n := 1) (N := 5) (by decide) (by decide)) ?_
  refine gw_al0 K dL_law_217 ?_
  refine gw_il3 K dL_law_218 ?_
  refine gw_iconst (v := 2) K dL_law_219 (by decide) ?_
  refine gw_iadd K dL_law_220 ?_
  refine gw_sld K S dL_law_221 (vp_in_nI (n := 2) (N := 5) (by decide) (by decide)) ?_
  refine gw_if_eq (tgt := 229) K dL_law_222 (by decide) (fun bb => ?_) (fun bb => ?_)
  · refine gw_iconst (v := 0) K dL_law_229 (by decide) ?_
    refine gw_callL_r K (uX6_seed z.1 (z.2.1, adX, z.2.2.1, z.2.2.2.1, z.2.2.2.2.1) z.2.2.2.2.2 _ _ _ fX) (i := 0) rfl (Nat.le_of_ble_eq_true rfl) fX6_seed lL_18 dL_law_230 rfl clsX6 rfl (Nat.le_of_ble_eq_true rfl) hkc hkn (fun h0 => ?_)
    refine gw_al2 K dL_law_233 ?_
    refine gw_al0 K dL_law_234 ?_
    refine gw_il3 K dL_law_235 ?_
    refine gw_iconst (v := 1) K dL_law_236 (by decide) ?_
    refine gw_iadd K dL_law_237 ?_
    refine gw_sld K S dL_law_238 (vp_in_nI (n := 1) (N := 5) (by decide) (by decide)) ?_
    refine gw_al0 K dL_law_239 ?_
    refine gw_il3 K dL_law_240 ?_
    refine gw_iconst (v := 2) K dL_law_241 (by decide) ?_
    refine gw_iadd K dL_law_242 ?_
    refine gw_sld K S dL_law_243 (vp_in_nI (n := 2) (N := 5) (by decide) (by decide)) ?_
    refine gw_if_eq (tgt := 251) K dL_law_244 (by decide) (fun b2 => ?_) (fun b2 => absurd bb b2)
    refine gw_iconst (v := 0) K dL_law_251 (by decide) ?_
    refine gw_callR_r K (uX7_seed z.1 (z.2.1, adM, z.2.2.1, z.2.2.2.1, z.2.2.2.2.1) z.2.2.2.2.2 _ _ _ fM) (i := 0) rfl (Nat.le_of_ble_eq_true rfl) fX7_seed lL_22 dL_law_252 rfl clsX7 rfl (Nat.le_of_ble_eq_true rfl) hkc hkn (fun h1 => ?_)
    refine gw_icmp_eq (tgt := 1301) K dL_law_255 (by decide) (fun _ => ?_) (fun q => absurd rfl q)
    exact law_next hret K S hkc hkn _
  · refine gw_iconst (v := 1) K dL_law_225 (by decide) ?_
    refine gw_goto (tgt := 230) K dL_law_226 (by decide) ?_
    refine gw_callL_r K (uX6_seed z.1 (z.2.1, adX, z.2.2.1, z.2.2.2.1, z.2.2.2.2.1) z.2.2.2.2.2 _ _ _ fX) (i := 0) rfl (Nat.le_of_ble_eq_true rfl) fX6_seed lL_18 dL_law_230 rfl clsX6 rfl (Nat.le_of_ble_eq_true rfl) hkc hkn (fun h0 => ?_)
    refine gw_al2 K dL_law_233 ?_
    refine gw_al0 K dL_law_234 ?_
    refine gw_il3 K dL_law_235 ?_
    refine gw_iconst (v := 1) K dL_law_236 (by decide) ?_
    refine gw_iadd K dL_law_237 ?_
    refine gw_sld K S dL_law_238 (vp_in_nI (n := 1) (N := 5) (by decide) (by decide)) ?_
    refine gw_al0 K dL_law_239 ?_
    refine gw_il3 K dL_law_240 ?_
    refine gw_iconst (v := 2) K dL_law_241 (by decide) ?_
    refine gw_iadd K dL_law_242 ?_
    refine gw_sld K S dL_law_243 (vp_in_nI (n := 2) (N := 5) (by decide) (by decide)) ?_
    refine gw_if_eq (tgt := 251) K dL_law_244 (by decide) (fun b2 => absurd b2 bb) (fun b2 => ?_)
    refine gw_iconst (v := 1) K dL_law_247 (by decide) ?_
    refine gw_goto (tgt := 252) K dL_law_248 (by decide) ?_
    refine gw_callR_r K (uX7_seed z.1 (z.2.1, adM, z.2.2.1, z.2.2.2.1, z.2.2.2.2.1) z.2.2.2.2.2 _ _ _ fM) (i := 0) rfl (Nat.le_of_ble_eq_true rfl) fX7_seed lL_22 dL_law_252 rfl clsX7 rfl (Nat.le_of_ble_eq_true rfl) hkc hkn (fun h1 => ?_)
    refine gw_icmp_eq (tgt := 1301) K dL_law_255 (by decide) (fun _ => ?_) (fun q => absurd rfl q)
    exact law_next hret K S hkc hkn _
set_option maxHeartbeats 8000000 in
set_option maxRecDepth 100000 in
theorem law_c2 {z : G6} {p : Program} {e : Env} {s : State} {m : MethodId} {below : List Frame} {meth : Method} {c : Code} {b : Nat} {xs : Nat → Int32} {adX adM : Nat → Nat} {kc kn : Nat} (hret : meth.sig.returnType = ret) (K : GOK (z, (13, 600000, 7302250), code, 4, RL) (p, e, s, m, #[Value.ref b], below, meth, c, fun q => s.heap.size ≤ q)) (S : SXP (p, e, s, m, #[Value.ref b], below, meth, c, fun q => s.heap.size ≤ q) b 5 xs) (hkc : kc ≤ 600000) (hkn : kn ≤ 7302250) : GW (z, (13, 600000, 7302250), code, 4, RL) (lw_Z below #[Value.ref b] s) (p, e, s, m, #[Value.ref b], below, meth, c, fun q => s.heap.size ≤ q) (aw_w (gw_wt z adX layX) hX0 ++ aw_w (gw_wt z adM layM) hM0) kc kn 260 [some (.ref b), some (.ref (adX 0)), some (.ref (adM 0)), some (.int 0)] [] := by
  refine gw_al1 K dL_law_260 ?_
  refine gw_al0 K dL_law_261 ?_
  refine gw_il3 K dL_law_262 ?_
  refine gw_iconst (v := 1) K dL_law_263 (by decide) ?_
  refine gw_iadd K dL_law_264 ?_
  refine gw_sld K S dL_law_265 (vp_in_nI (n := 1) (N := 5) (by decide) (by decide)) ?_
  refine gw_al0 K dL_law_266 ?_
  refine gw_il3 K dL_law_267 ?_
  refine gw_iconst (v := 2) K dL_law_268 (by decide) ?_
  refine gw_iadd K dL_law_269 ?_
  refine gw_sld K S dL_law_270 (vp_in_nI (n := 2) (N := 5) (by decide) (by decide)) ?_
  refine gw_callL_r K (uX6_pledge z.1 (z.2.1, adX, z.2.2.1, z.2.2.2.1, z.2.2.2.2.1) z.2.2.2.2.2 _ _ _ fX) (i := 0) rfl (Nat.le_of_ble_eq_true rfl) fX6_pledge lL_23 dL_law_271 rfl clsX6 rfl (Nat.le_of_ble_eq_true rfl) hkc hkn (fun h0 => ?_)
  refine gw_al2 K dL_law_274 ?_
  refine gw_al0 K dL_law_275 ?_
  refine gw_il3 K dL_law_276 ?_
  refine gw_iconst (v := 1) K dL_law_277 (by decide) ?_
  refine gw_iadd K dL_law_278 ?_
  refine gw_sld K S dL_law_279 (vp_in_nI (n := 1) (N := 5) (by decide) (by decide)) ?_
  refine gw_al0 K dL_law_280 ?_
  refine gw_il3 K dL_law_281 ?_
  refine gw_iconst (v := 2) K dL_law_282 (by decide) ?_
  refine gw_iadd K dL_law_283 ?_
  refine gw_sld K S dL_law_284 (vp_in_nI (n := 2) (N := 5) (by decide) (by decide)) ?_
  refine gw_callR_r K (uX7_pledge z.1 (z.2.1, adM, z.2.2.1, z.2.2.2.1, z.2.2.2.2.1) z.2.2.2.2.2 _ _ _ fM) (i := 0) rfl (Nat.le_of_ble_eq_true rfl) fX7_pledge lL_27 dL_law_285 rfl clsX7 rfl (Nat.le_of_ble_eq_true rfl) hkc hkn (fun h1 => ?_)
  refine gw_icmp_eq (tgt := 1301) K dL_law_288 (by decide) (fun _ => ?_) (fun q => absurd rfl q)
  exact law_next hret K S hkc hkn _
set_option maxHeartbeats 8000000 in
set_option maxRecDepth 100000 in
theorem law_c3 {z : G6} {p : Program} {e : Env} {s : State} {m : MethodId} {below : List Frame} {meth : Method} {c : Code} {b : Nat} {xs : Nat → Int32} {adX adM : Nat → Nat} {kc kn : Nat} (hret : meth.sig.returnType = ret) (K : GOK (z, (13, 600000, 7302250), code, 4, RL) (p, e, s, m, #[Value.ref b], below, meth, c, fun q => s.heap.size ≤ q)) (S : SXP (p, e, s, m, #[Value.ref b], below, meth, c, fun q => s.heap.size ≤ q) b 5 xs) (hkc : kc ≤ 600000) (hkn : kn ≤ 7302250) : GW (z, (13, 600000, 7302250), code, 4, RL) (lw_Z below #[Value.ref b] s) (p, e, s, m, #[Value.ref b], below, meth, c, fun q => s.heap.size ≤ q) (aw_w (gw_wt z adX layX) hX0 ++ aw_w (gw_wt z adM layM) hM0) kc kn 293 [some (.ref b), some (.ref (adX 0)), some (.ref (adM 0)), some (.int 0)] [] := by
  refine gw_al1 K dL_law_293 ?_
  refine gw_al0 K dL_law_294 ?_
  refine gw_il3 K dL_law_295 ?_
  refine gw_iconst (v := 1) K dL_law_296 (by decide) ?_
  refine gw_iadd K dL_law_297 ?_
  refine gw_sld K S dL_law_298 (vp_in_nI (n := 1) (N := 5) (by decide) (by decide)) ?_
  refine gw_al0 K dL_law_299 ?_
  refine gw_il3 K dL_law_300 ?_
  refine gw_iconst (v := 2) K dL_law_301 (by decide) ?_
  refine gw_iadd K dL_law_302 ?_
  refine gw_sld K S dL_law_303 (vp_in_nI (n := 2) (N := 5) (by decide) (by decide)) ?_
  refine gw_al0 K dL_law_304 ?_
  refine gw_il3 K dL_law_305 ?_
  refine gw_iconst (v := 3) K dL_law_306 (by decide) ?_
  refine gw_iadd K dL_law_307 ?_
  refine gw_sld K S dL_law_308 (vp_in_nI (n := 3) (N := 5) (by decide) (by decide)) ?_
  refine gw_al0 K dL_law_309 ?_
  refine gw_il3 K dL_law_310 ?_
  refine gw_iconst (v := 4) K dL_law_311 (by decide) ?_
  refine gw_iadd K dL_law_312 ?_
  refine gw_sld K S dL_law_313 (vp_in_nI (n := 4) (N := 5) (by decide) (by decide)) ?_
  refine gw_callL_r K (uX6_tie z.1 (z.2.1, adX, z.2.2.1, z.2.2.2.1, z.2.2.2.2.1) z.2.2.2.2.2 _ _ _ _ _ fX) (i := 0) rfl (Nat.le_of_ble_eq_true rfl) fX6_tie lL_28 dL_law_314 rfl clsX6 rfl (Nat.le_of_ble_eq_true rfl) hkc hkn (fun h0 => ?_)
  refine gw_al2 K dL_law_317 ?_
  refine gw_al0 K dL_law_318 ?_
  refine gw_il3 K dL_law_319 ?_
  refine gw_iconst (v := 1) K dL_law_320 (by decide) ?_
  refine gw_iadd K dL_law_321 ?_
  refine gw_sld K S dL_law_322 (vp_in_nI (n := 1) (N := 5) (by decide) (by decide)) ?_
  refine gw_al0 K dL_law_323 ?_
  refine gw_il3 K dL_law_324 ?_
  refine gw_iconst (v := 2) K dL_law_325 (by decide) ?_
  refine gw_iadd K dL_law_326 ?_
  refine gw_sld K S dL_law_327 (vp_in_nI (n := 2) (N := 5) (by decide) (by decide)) ?_
  refine gw_al0 K dL_law_328 ?_
  refine gw_il3 K dL_law_329 ?_
  refine gw_iconst (v := 3) K dL_law_330 (by decide) ?_
  refine gw_iadd K dL_law_331 ?_
  refine gw_sld K S dL_law_332 (vp_in_nI (n := 3) (N := 5) (by decide) (by decide)) ?_
  refine gw_al0 K dL_law_333 ?_
  refine gw_il3 K dL_law_334 ?_
  refine gw_iconst (v := 4) K dL_law_335 (by decide) ?_
  refine gw_iadd K dL_law_336 ?_
  refine gw_sld K S dL_law_337 (vp_in_nI (n := 4) (N := 5) (by decide) (by decide)) ?_
  refine gw_callR_r K (uX7_tie z.1 (z.2.1, adM, z.2.2.1, z.2.2.2.1, z.2.2.2.2.1) z.2.2.2.2.2 _ _ _ _ _ fM) (i := 0) rfl (Nat.le_of_ble_eq_true rfl) fX7_tie lL_32 dL_law_338 rfl clsX7 rfl (Nat.le_of_ble_eq_true rfl) hkc hkn (fun h1 => ?_)
  refine gw_icmp_eq (tgt := 1301) K dL_law_341 (by decide) (fun _ => ?_) (fun q => absurd rfl q)
  exact law_next hret K S hkc hkn _
set_option maxHeartbeats 8000000 in
set_option maxRecDepth 100000 in
theorem law_c4 {z : G6} {p : Program} {e : Env} {s : State} {m : MethodId} {below : List Frame} {meth : Method} {c : Code} {b : Nat} {xs : Nat → Int32} {adX adM : Nat → Nat} {kc kn : Nat} (hret : meth.sig.returnType = ret) (K : GOK (z, (13, 600000, 7302250), code, 4, RL) (p, e, s, m, #[Value.ref b], below, meth, c, fun q => s.heap.size ≤ q)) (S : SXP (p, e, s, m, #[Value.ref b], below, meth, c, fun q => s.heap.size ≤ q) b 5 xs) (hkc : kc ≤ 600000) (hkn : kn ≤ 7302250) : GW (z, (13, 600000, 7302250), code, 4, RL) (lw_Z below #[Value.ref b] s) (p, e, s, m, #[Value.ref b], below, meth, c, fun q => s.heap.size ≤ q) (aw_w (gw_wt z adX layX) hX0 ++ aw_w (gw_wt z adM layM) hM0) kc kn 346 [some (.ref b), some (.ref (adX 0)), some (.ref (adM 0)), some (.int 0)] [] := by
  refine gw_al1 K dL_law_346 ?_
  refine gw_al0 K dL_law_347 ?_
  refine gw_il3 K dL_law_348 ?_
  refine gw_iconst (v := 1) K dL_law_349 (by decide) ?_
  refine gw_iadd K dL_law_350 ?_
  refine gw_sld K S dL_law_351 (vp_in_nI (n := 1) (N := 5) (by decide) (by decide)) ?_
  refine gw_al0 K dL_law_352 ?_
  refine gw_il3 K dL_law_353 ?_
  refine gw_iconst (v := 2) K dL_law_354 (by decide) ?_
  refine gw_iadd K dL_law_355 ?_
  refine gw_sld K S dL_law_356 (vp_in_nI (n := 2) (N := 5) (by decide) (by decide)) ?_
  refine gw_callL_r K (uX6_tieOf z.1 (z.2.1, adX, z.2.2.1, z.2.2.2.1, z.2.2.2.2.1) z.2.2.2.2.2 _ _ _ fX) (i := 0) rfl (Nat.le_of_ble_eq_true rfl) fX6_tieOf lL_33 dL_law_357 rfl clsX6 rfl (Nat.le_of_ble_eq_true rfl) hkc hkn (fun h0 => ?_)
  refine gw_al2 K dL_law_360 ?_
  refine gw_al0 K dL_law_361 ?_
  refine gw_il3 K dL_law_362 ?_
  refine gw_iconst (v := 1) K dL_law_363 (by decide) ?_
  refine gw_iadd K dL_law_364 ?_
  refine gw_sld K S dL_law_365 (vp_in_nI (n := 1) (N := 5) (by decide) (by decide)) ?_
  refine gw_al0 K dL_law_366 ?_
  refine gw_il3 K dL_law_367 ?_
  refine gw_iconst (v := 2) K dL_law_368 (by decide) ?_
  refine gw_iadd K dL_law_369 ?_
  refine gw_sld K S dL_law_370 (vp_in_nI (n := 2) (N := 5) (by decide) (by decide)) ?_
  refine gw_callR_r K (uX7_tieOf z.1 (z.2.1, adM, z.2.2.1, z.2.2.2.1, z.2.2.2.2.1) z.2.2.2.2.2 _ _ _ fM) (i := 0) rfl (Nat.le_of_ble_eq_true rfl) fX7_tieOf lL_36 dL_law_371 rfl clsX7 rfl (Nat.le_of_ble_eq_true rfl) hkc hkn (fun h1 => ?_)
  refine gw_icmp_eq (tgt := 1301) K dL_law_374 (by decide) (fun _ => ?_) (fun q => absurd rfl q)
  exact law_next hret K S hkc hkn _
set_option maxHeartbeats 8000000 in
set_option maxRecDepth 100000 in
theorem law_c5 {z : G6} {p : Program} {e : Env} {s : State} {m : MethodId} {below : List Frame} {meth : Method} {c : Code} {b : Nat} {xs : Nat → Int32} {adX adM : Nat → Nat} {kc kn : Nat} (hret : meth.sig.returnType = ret) (K : GOK (z, (13, 600000, 7302250), code, 4, RL) (p, e, s, m, #[Value.ref b], below, meth, c, fun q => s.heap.size ≤ q)) (S : SXP (p, e, s, m, #[Value.ref b], below, meth, c, fun q => s.heap.size ≤ q) b 5 xs) (hkc : kc ≤ 600000) (hkn : kn ≤ 7302250) : GW (z, (13, 600000, 7302250), code, 4, RL) (lw_Z below #[Value.ref b] s) (p, e, s, m, #[Value.ref b], below, meth, c, fun q => s.heap.size ≤ q) (aw_w (gw_wt z adX layX) hX0 ++ aw_w (gw_wt z adM layM) hM0) kc kn 379 [some (.ref b), some (.ref (adX 0)), some (.ref (adM 0)), some (.int 0)] [] := by
  refine gw_al1 K dL_law_379 ?_
  refine gw_al0 K dL_law_380 ?_
  refine gw_il3 K dL_law_381 ?_
  refine gw_iconst (v := 1) K dL_law_382 (by decide) ?_
  refine gw_iadd K dL_law_383 ?_
  refine gw_sld K S dL_law_384 (vp_in_nI (n := 1) (N := 5) (by decide) (by decide)) ?_
  refine gw_callL_r K (uX6_renew z.1 (z.2.1, adX, z.2.2.1, z.2.2.2.1, z.2.2.2.2.1) z.2.2.2.2.2 _ _ fX) (i := 0) rfl (Nat.le_of_ble_eq_true rfl) fX6_renew lL_37 dL_law_385 rfl clsX6 rfl (Nat.le_of_ble_eq_true rfl) hkc hkn (fun h0 => ?_)
  refine gw_al2 K dL_law_388 ?_
  refine gw_al0 K dL_law_389 ?_
  refine gw_il3 K dL_law_390 ?_
  refine gw_iconst (v := 1) K dL_law_391 (by decide) ?_
  refine gw_iadd K dL_law_392 ?_
  refine gw_sld K S dL_law_393 (vp_in_nI (n := 1) (N := 5) (by decide) (by decide)) ?_
  refine gw_callR_r K (uX7_renew z.1 (z.2.1, adM, z.2.2.1, z.2.2.2.1, z.2.2.2.2.1) z.2.2.2.2.2 _ _ fM) (i := 0) rfl (Nat.le_of_ble_eq_true rfl) fX7_renew lL_40 dL_law_394 rfl clsX7 rfl (Nat.le_of_ble_eq_true rfl) hkc hkn (fun h1 => ?_)
  refine gw_icmp_eq (tgt := 1301) K dL_law_397 (by decide) (fun _ => ?_) (fun q => absurd rfl q)
  exact law_next hret K S hkc hkn _
set_option maxHeartbeats 8000000 in
set_option maxRecDepth 100000 in
theorem law_c6 {z : G6} {p : Program} {e : Env} {s : State} {m : MethodId} {below : List Frame} {meth : Method} {c : Code} {b : Nat} {xs : Nat → Int32} {adX adM : Nat → Nat} {kc kn : Nat} (hret : meth.sig.returnType = ret) (K : GOK (z, (13, 600000, 7302250), code, 4, RL) (p, e, s, m, #[Value.ref b], below, meth, c, fun q => s.heap.size ≤ q)) (S : SXP (p, e, s, m, #[Value.ref b], below, meth, c, fun q => s.heap.size ≤ q) b 5 xs) (hkc : kc ≤ 600000) (hkn : kn ≤ 7302250) : GW (z, (13, 600000, 7302250), code, 4, RL) (lw_Z below #[Value.ref b] s) (p, e, s, m, #[Value.ref b], below, meth, c, fun q => s.heap.size ≤ q) (aw_w (gw_wt z adX layX) hX0 ++ aw_w (gw_wt z adM layM) hM0) kc kn 402 [some (.ref b), some (.ref (adX 0)), some (.ref (adM 0)), some (.int 0)] [] := by
  refine gw_al1 K dL_law_402 ?_
  refine gw_al0 K dL_law_403 ?_
  refine gw_il3 K dL_law_404 ?_
  refine gw_iconst (v := 1) K dL_law_405 (by decide) ?_
  refine gw_iadd K dL_law_406 ?_
  refine gw_sld K S dL_law_407 (vp_in_nI (n := 1) (N := 5) (by decide) (by decide)) ?_
  refine gw_al0 K dL_law_408 ?_
  refine gw_il3 K dL_law_409 ?_
  refine gw_iconst (v := 2) K dL_law_410 (by decide) ?_
  refine gw_iadd K dL_law_411 ?_
  refine gw_sld K S dL_law_412 (vp_in_nI (n := 2) (N := 5) (by decide) (by decide)) ?_
  refine gw_callL_r K (uX6_of z.1 (z.2.1, adX, z.2.2.1, z.2.2.2.1, z.2.2.2.2.1) z.2.2.2.2.2 _ _ _ fX) (i := 0) rfl (Nat.le_of_ble_eq_true rfl) fX6_of lL_41 dL_law_413 rfl clsX6 rfl (Nat.le_of_ble_eq_true rfl) hkc hkn (fun h0 => ?_)
  refine gw_al2 K dL_law_416 ?_
  refine gw_al0 K dL_law_417 ?_
  refine gw_il3 K dL_law_418 ?_
  refine gw_iconst (v := 1) K dL_law_419 (by decide) ?_
  refine gw_iadd K dL_law_420 ?_
  refine gw_sld K S dL_law_421 (vp_in_nI (n := 1) (N := 5) (by decide) (by decide)) ?_
  refine gw_al0 K dL_law_422 ?_
  refine gw_il3 K dL_law_423 ?_
  refine gw_iconst (v := 2) K dL_law_424 (by decide) ?_
  refine gw_iadd K dL_law_425 ?_
  refine gw_sld K S dL_law_426 (vp_in_nI (n := 2) (N := 5) (by decide) (by decide)) ?_
  refine gw_callR_r K (uX7_of z.1 (z.2.1, adM, z.2.2.1, z.2.2.2.1, z.2.2.2.2.1) z.2.2.2.2.2 _ _ _ fM) (i := 0) rfl (Nat.le_of_ble_eq_true rfl) fX7_of lL_44 dL_law_427 rfl clsX7 rfl (Nat.le_of_ble_eq_true rfl) hkc hkn (fun h1 => ?_)
  refine gw_icmp_eq (tgt := 1301) K dL_law_430 (by decide) (fun _ => ?_) (fun q => absurd rfl q)
  exact law_next hret K S hkc hkn _
set_option maxHeartbeats 8000000 in
set_option maxRecDepth 100000 in
theorem law_c7 {z : G6} {p : Program} {e : Env} {s : State} {m : MethodId} {below : List Frame} {meth : Method} {c : Code} {b : Nat} {xs : Nat → Int32} {adX adM : Nat → Nat} {kc kn : Nat} (hret : meth.sig.returnType = ret) (K : GOK (z, (13, 600000, 7302250), code, 4, RL) (p, e, s, m, #[Value.ref b], below, meth, c, fun q => s.heap.size ≤ q)) (S : SXP (p, e, s, m, #[Value.ref b], below, meth, c, fun q => s.heap.size ≤ q) b 5 xs) (hkc : kc ≤ 600000) (hkn : kn ≤ 7302250) : GW (z, (13, 600000, 7302250), code, 4, RL) (lw_Z below #[Value.ref b] s) (p, e, s, m, #[Value.ref b], below, meth, c, fun q => s.heap.size ≤ q) (aw_w (gw_wt z adX layX) hX0 ++ aw_w (gw_wt z adM layM) hM0) kc kn 435 [some (.ref b), some (.ref (adX 0)), some (.ref (adM 0)), some (.int 0)] [] := by
  refine gw_al1 K dL_law_435 ?_
  refine gw_al0 K dL_law_436 ?_
  refine gw_il3 K dL_law_437 ?_
  refine gw_iconst (v := 1) K dL_law_438 (by decide) ?_
  refine gw_iadd K dL_law_439 ?_
  refine gw_sld K S dL_law_440 (vp_in_nI (n := 1) (N := 5) (by decide) (by decide)) ?_
  refine gw_callL_r K (uX6_made z.1 (z.2.1, adX, z.2.2.1, z.2.2.2.1, z.2.2.2.2.1) z.2.2.2.2.2 _ _ fX) (i := 0) rfl (Nat.le_of_ble_eq_true rfl) fX6_made lL_45 dL_law_441 rfl clsX6 rfl (Nat.le_of_ble_eq_true rfl) hkc hkn (fun h0 => ?_)
  refine gw_al2 K dL_law_444 ?_
  refine gw_al0 K dL_law_445 ?_
  refine gw_il3 K dL_law_446 ?_
  refine gw_iconst (v := 1) K dL_law_447 (by decide) ?_
  refine gw_iadd K dL_law_448 ?_
  refine gw_sld K S dL_law_449 (vp_in_nI (n := 1) (N := 5) (by decide) (by decide)) ?_
  refine gw_callR_r K (uX7_made z.1 (z.2.1, adM, z.2.2.1, z.2.2.2.1, z.2.2.2.2.1) z.2.2.2.2.2 _ _ fM) (i := 0) rfl (Nat.le_of_ble_eq_true rfl) fX7_made lL_48 dL_law_450 rfl clsX7 rfl (Nat.le_of_ble_eq_true rfl) hkc hkn (fun h1 => ?_)
  refine gw_icmp_eq (tgt := 1301) K dL_law_453 (by decide) (fun _ => ?_) (fun q => absurd rfl q)
  exact law_next hret K S hkc hkn _
set_option maxHeartbeats 8000000 in
set_option maxRecDepth 100000 in
theorem law_c8 {z : G6} {p : Program} {e : Env} {s : State} {m : MethodId} {below : List Frame} {meth : Method} {c : Code} {b : Nat} {xs : Nat → Int32} {adX adM : Nat → Nat} {kc kn : Nat} (hret : meth.sig.returnType = ret) (K : GOK (z, (13, 600000, 7302250), code, 4, RL) (p, e, s, m, #[Value.ref b], below, meth, c, fun q => s.heap.size ≤ q)) (S : SXP (p, e, s, m, #[Value.ref b], below, meth, c, fun q => s.heap.size ≤ q) b 5 xs) (hkc : kc ≤ 600000) (hkn : kn ≤ 7302250) : GW (z, (13, 600000, 7302250), code, 4, RL) (lw_Z below #[Value.ref b] s) (p, e, s, m, #[Value.ref b], below, meth, c, fun q => s.heap.size ≤ q) (aw_w (gw_wt z adX layX) hX0 ++ aw_w (gw_wt z adM layM) hM0) kc kn 458 [some (.ref b), some (.ref (adX 0)), some (.ref (adM 0)), some (.int 0)] [] := by
  refine gw_al1 K dL_law_458 ?_
  refine gw_al0 K dL_law_459 ?_
  refine gw_il3 K dL_law_460 ?_
  refine gw_iconst (v := 1) K dL_law_461 (by decide) ?_
  refine gw_iadd K dL_law_462 ?_
  refine gw_sld K S dL_law_463 (vp_in_nI (n := 1) (N := 5) (by decide) (by decide)) ?_
  refine gw_callL_r K (uX6_day z.1 (z.2.1, adX, z.2.2.1, z.2.2.2.1, z.2.2.2.2.1) z.2.2.2.2.2 _ _ fX) (i := 0) rfl (Nat.le_of_ble_eq_true rfl) fX6_day lL_49 dL_law_464 rfl clsX6 rfl (Nat.le_of_ble_eq_true rfl) hkc hkn (fun h0 => ?_)
  refine gw_al2 K dL_law_467 ?_
  refine gw_al0 K dL_law_468 ?_
  refine gw_il3 K dL_law_469 ?_
  refine gw_iconst (v := 1) K dL_law_470 (by decide) ?_
  refine gw_iadd K dL_law_471 ?_
  refine gw_sld K S dL_law_472 (vp_in_nI (n := 1) (N := 5) (by decide) (by decide)) ?_
  refine gw_callR_r K (uX7_day z.1 (z.2.1, adM, z.2.2.1, z.2.2.2.1, z.2.2.2.2.1) z.2.2.2.2.2 _ _ fM) (i := 0) rfl (Nat.le_of_ble_eq_true rfl) fX7_day lL_52 dL_law_473 rfl clsX7 rfl (Nat.le_of_ble_eq_true rfl) hkc hkn (fun h1 => ?_)
  refine gw_icmp_eq (tgt := 1301) K dL_law_476 (by decide) (fun _ => ?_) (fun q => absurd rfl q)
  exact law_next hret K S hkc hkn _
set_option maxHeartbeats 8000000 in
set_option maxRecDepth 100000 in
theorem law_c9 {z : G6} {p : Program} {e : Env} {s : State} {m : MethodId} {below : List Frame} {meth : Method} {c : Code} {b : Nat} {xs : Nat → Int32} {adX adM : Nat → Nat} {kc kn : Nat} (hret : meth.sig.returnType = ret) (K : GOK (z, (13, 600000, 7302250), code, 4, RL) (p, e, s, m, #[Value.ref b], below, meth, c, fun q => s.heap.size ≤ q)) (S : SXP (p, e, s, m, #[Value.ref b], below, meth, c, fun q => s.heap.size ≤ q) b 5 xs) (hkc : kc ≤ 600000) (hkn : kn ≤ 7302250) : GW (z, (13, 600000, 7302250), code, 4, RL) (lw_Z below #[Value.ref b] s) (p, e, s, m, #[Value.ref b], below, meth, c, fun q => s.heap.size ≤ q) (aw_w (gw_wt z adX layX) hX0 ++ aw_w (gw_wt z adM layM) hM0) kc kn 481 [some (.ref b), some (.ref (adX 0)), some (.ref (adM 0)), some (.int 0)] [] := by
  refine gw_al1 K dL_law_481 ?_
  refine gw_al0 K dL_law_482 ?_
  refine gw_il3 K dL_law_483 ?_
  refine gw_iconst (v := 1) K dL_law_484 (by decide) ?_
  refine gw_iadd K dL_law_485 ?_
  refine gw_sld K S dL_law_486 (vp_in_nI (n := 1) (N := 5) (by decide) (by decide)) ?_
  refine gw_i2l K dL_law_487 ?_
  refine gw_bipush (v := 32) K dL_law_488 (by decide) ?_
  refine gw_lshl K dL_law_490 ?_
  refine gw_al0 K dL_law_491 ?_
  refine gw_il3 K dL_law_492 ?_
  refine gw_iconst (v := 2) K dL_law_493 (by decide) ?_
  refine gw_iadd K dL_law_494 ?_
  refine gw_sld K S dL_law_495 (vp_in_nI (n := 2) (N := 5) (by decide) (by decide)) ?_
  refine gw_i2l K dL_law_496 ?_
  refine gw_ldc2 K qL_53 dL_law_497 ?_
  refine gw_land K dL_law_500 ?_
  refine gw_lor K dL_law_501 ?_
  refine gw_callL_r K (uX6_feed z.1 (z.2.1, adX, z.2.2.1, z.2.2.2.1, z.2.2.2.2.1) z.2.2.2.2.2 _ _ fX) (i := 0) rfl (Nat.le_of_ble_eq_true rfl) fX6_feed lL_55 dL_law_502 rfl clsX6 rfl (Nat.le_of_ble_eq_true rfl) hkc hkn (fun h0 => ?_)
  refine gw_al2 K dL_law_505 ?_
  refine gw_al0 K dL_law_506 ?_
  refine gw_il3 K dL_law_507 ?_
  refine gw_iconst (v := 1) K dL_law_508 (by decide) ?_
  refine gw_iadd K dL_law_509 ?_
  refine gw_sld K S dL_law_510 (vp_in_nI (n := 1) (N := 5) (by decide) (by decide)) ?_
  refine gw_i2l K dL_law_511 ?_
  refine gw_bipush (v := 32) K dL_law_512 (by decide) ?_
  refine gw_lshl K dL_law_514 ?_
  refine gw_al0 K dL_law_515 ?_
  refine gw_il3 K dL_law_516 ?_
  refine gw_iconst (v := 2) K dL_law_517 (by decide) ?_
  refine gw_iadd K dL_law_518 ?_
  refine gw_sld K S dL_law_519 (vp_in_nI (n := 2) (N := 5) (by decide) (by decide)) ?_
  refine gw_i2l K dL_law_520 ?_
  refine gw_ldc2 K qL_53 dL_law_521 ?_
  refine gw_land K dL_law_524 ?_
  refine gw_lor K dL_law_525 ?_
  refine gw_callR_r K (uX7_feed z.1 (z.2.1, adM, z.2.2.1, z.2.2.2.1, z.2.2.2.2.1) z.2.2.2.2.2 _ _ fM) (i := 0) rfl (Nat.le_of_ble_eq_true rfl) fX7_feed lL_59 dL_law_526 rfl clsX7 rfl (Nat.le_of_ble_eq_true rfl) hkc hkn (fun h1 => ?_)
  refine gw_icmp_eq (tgt := 1301) K dL_law_529 (by decide) (fun _ => ?_) (fun q => absurd rfl q)
  exact law_next hret K S hkc hkn _
set_option maxHeartbeats 8000000 in
set_option maxRecDepth 100000 in
theorem law_c10 {z : G6} {p : Program} {e : Env} {s : State} {m : MethodId} {below : List Frame} {meth : Method} {c : Code} {b : Nat} {xs : Nat → Int32} {adX adM : Nat → Nat} {kc kn : Nat} (hret : meth.sig.returnType = ret) (K : GOK (z, (13, 600000, 7302250), code, 4, RL) (p, e, s, m, #[Value.ref b], below, meth, c, fun q => s.heap.size ≤ q)) (S : SXP (p, e, s, m, #[Value.ref b], below, meth, c, fun q => s.heap.size ≤ q) b 5 xs) (hkc : kc ≤ 600000) (hkn : kn ≤ 7302250) : GW (z, (13, 600000, 7302250), code, 4, RL) (lw_Z below #[Value.ref b] s) (p, e, s, m, #[Value.ref b], below, meth, c, fun q => s.heap.size ≤ q) (aw_w (gw_wt z adX layX) hX0 ++ aw_w (gw_wt z adM layM) hM0) kc kn 534 [some (.ref b), some (.ref (adX 0)), some (.ref (adM 0)), some (.int 0)] [] := by
  refine gw_al1 K dL_law_534 ?_
  refine gw_al0 K dL_law_535 ?_
  refine gw_il3 K dL_law_536 ?_
  refine gw_iconst (v := 1) K dL_law_537 (by decide) ?_
  refine gw_iadd K dL_law_538 ?_
  refine gw_sld K S dL_law_539 (vp_in_nI (n := 1) (N := 5) (by decide) (by decide)) ?_
  refine gw_callL_r K (uX6_end z.1 (z.2.1, adX, z.2.2.1, z.2.2.2.1, z.2.2.2.2.1) z.2.2.2.2.2 _ _ fX) (i := 0) rfl (Nat.le_of_ble_eq_true rfl) fX6_end lL_60 dL_law_540 rfl clsX6 rfl (Nat.le_of_ble_eq_true rfl) hkc hkn (fun h0 => ?_)
  refine gw_al2 K dL_law_543 ?_
  refine gw_al0 K dL_law_544 ?_
  refine gw_il3 K dL_law_545 ?_
  refine gw_iconst (v := 1) K dL_law_546 (by decide) ?_
  refine gw_iadd K dL_law_547 ?_
  refine gw_sld K S dL_law_548 (vp_in_nI (n := 1) (N := 5) (by decide) (by decide)) ?_
  refine gw_callR_r K (uX7_end z.1 (z.2.1, adM, z.2.2.1, z.2.2.2.1, z.2.2.2.2.1) z.2.2.2.2.2 _ _ fM) (i := 0) rfl (Nat.le_of_ble_eq_true rfl) fX7_end lL_63 dL_law_549 rfl clsX7 rfl (Nat.le_of_ble_eq_true rfl) hkc hkn (fun h1 => ?_)
  refine gw_icmp_eq (tgt := 1301) K dL_law_552 (by decide) (fun _ => ?_) (fun q => absurd rfl q)
  exact law_next hret K S hkc hkn _
set_option maxHeartbeats 8000000 in
set_option maxRecDepth 100000 in
theorem law_c11 {z : G6} {p : Program} {e : Env} {s : State} {m : MethodId} {below : List Frame} {meth : Method} {c : Code} {b : Nat} {xs : Nat → Int32} {adX adM : Nat → Nat} {kc kn : Nat} (hret : meth.sig.returnType = ret) (K : GOK (z, (13, 600000, 7302250), code, 4, RL) (p, e, s, m, #[Value.ref b], below, meth, c, fun q => s.heap.size ≤ q)) (S : SXP (p, e, s, m, #[Value.ref b], below, meth, c, fun q => s.heap.size ≤ q) b 5 xs) (hkc : kc ≤ 600000) (hkn : kn ≤ 7302250) : GW (z, (13, 600000, 7302250), code, 4, RL) (lw_Z below #[Value.ref b] s) (p, e, s, m, #[Value.ref b], below, meth, c, fun q => s.heap.size ≤ q) (aw_w (gw_wt z adX layX) hX0 ++ aw_w (gw_wt z adM layM) hM0) kc kn 557 [some (.ref b), some (.ref (adX 0)), some (.ref (adM 0)), some (.int 0)] [] := by
  refine gw_al1 K dL_law_557 ?_
  refine gw_callL_r K (uX6_rules z.1 (z.2.1, adX, z.2.2.1, z.2.2.2.1, z.2.2.2.2.1) z.2.2.2.2.2 _ fX) (i := 0) rfl (Nat.le_of_ble_eq_true rfl) fX6_rules lL_64 dL_law_558 rfl clsX6 rfl (Nat.le_of_ble_eq_true rfl) hkc hkn (fun h0 => ?_)
  refine gw_al2 K dL_law_561 ?_
  refine gw_callR_r K (uX7_rules z.1 (z.2.1, adM, z.2.2.1, z.2.2.2.1, z.2.2.2.2.1) z.2.2.2.2.2 _ fM) (i := 0) rfl (Nat.le_of_ble_eq_true rfl) fX7_rules lL_68 dL_law_562 rfl clsX7 rfl (Nat.le_of_ble_eq_true rfl) hkc hkn (fun h1 => ?_)
  refine gw_icmp_eq (tgt := 1301) K dL_law_565 (by decide) (fun _ => ?_) (fun q => absurd rfl q)
  exact law_next hret K S hkc hkn _
set_option maxHeartbeats 8000000 in
set_option maxRecDepth 100000 in
theorem law_c12 {z : G6} {p : Program} {e : Env} {s : State} {m : MethodId} {below : List Frame} {meth : Method} {c : Code} {b : Nat} {xs : Nat → Int32} {adX adM : Nat → Nat} {kc kn : Nat} (hret : meth.sig.returnType = ret) (K : GOK (z, (13, 600000, 7302250), code, 4, RL) (p, e, s, m, #[Value.ref b], below, meth, c, fun q => s.heap.size ≤ q)) (S : SXP (p, e, s, m, #[Value.ref b], below, meth, c, fun q => s.heap.size ≤ q) b 5 xs) (hkc : kc ≤ 600000) (hkn : kn ≤ 7302250) : GW (z, (13, 600000, 7302250), code, 4, RL) (lw_Z below #[Value.ref b] s) (p, e, s, m, #[Value.ref b], below, meth, c, fun q => s.heap.size ≤ q) (aw_w (gw_wt z adX layX) hX0 ++ aw_w (gw_wt z adM layM) hM0) kc kn 570 [some (.ref b), some (.ref (adX 0)), some (.ref (adM 0)), some (.int 0)] [] := by
  refine gw_al1 K dL_law_570 ?_
  refine gw_callL_r K (uX6_fault z.1 (z.2.1, adX, z.2.2.1, z.2.2.2.1, z.2.2.2.2.1) z.2.2.2.2.2 _ fX) (i := 0) rfl (Nat.le_of_ble_eq_true rfl) fX6_fault lL_69 dL_law_571 rfl clsX6 rfl (Nat.le_of_ble_eq_true rfl) hkc hkn (fun h0 => ?_)
  refine gw_al2 K dL_law_574 ?_
  refine gw_callR_r K (uX7_fault z.1 (z.2.1, adM, z.2.2.1, z.2.2.2.1, z.2.2.2.2.1) z.2.2.2.2.2 _ fM) (i := 0) rfl (Nat.le_of_ble_eq_true rfl) fX7_fault lL_72 dL_law_575 rfl clsX7 rfl (Nat.le_of_ble_eq_true rfl) hkc hkn (fun h1 => ?_)
  refine gw_icmp_eq (tgt := 1301) K dL_law_578 (by decide) (fun _ => ?_) (fun q => absurd rfl q)
  exact law_next hret K S hkc hkn _
set_option maxHeartbeats 8000000 in
set_option maxRecDepth 100000 in
theorem law_c13 {z : G6} {p : Program} {e : Env} {s : State} {m : MethodId} {below : List Frame} {meth : Method} {c : Code} {b : Nat} {xs : Nat → Int32} {adX adM : Nat → Nat} {kc kn : Nat} (hret : meth.sig.returnType = ret) (K : GOK (z, (13, 600000, 7302250), code, 4, RL) (p, e, s, m, #[Value.ref b], below, meth, c, fun q => s.heap.size ≤ q)) (S : SXP (p, e, s, m, #[Value.ref b], below, meth, c, fun q => s.heap.size ≤ q) b 5 xs) (hkc : kc ≤ 600000) (hkn : kn ≤ 7302250) : GW (z, (13, 600000, 7302250), code, 4, RL) (lw_Z below #[Value.ref b] s) (p, e, s, m, #[Value.ref b], below, meth, c, fun q => s.heap.size ≤ q) (aw_w (gw_wt z adX layX) hX0 ++ aw_w (gw_wt z adM layM) hM0) kc kn 583 [some (.ref b), some (.ref (adX 0)), some (.ref (adM 0)), some (.int 0)] [] := by
  refine gw_al1 K dL_law_583 ?_
  refine gw_al0 K dL_law_584 ?_
  refine gw_il3 K dL_law_585 ?_
  refine gw_iconst (v := 1) K dL_law_586 (by decide) ?_
  refine gw_iadd K dL_law_587 ?_
  refine gw_sld K S dL_law_588 (vp_in_nI (n := 1) (N := 5) (by decide) (by decide)) ?_
  refine gw_callL_r K (uX6_rule z.1 (z.2.1, adX, z.2.2.1, z.2.2.2.1, z.2.2.2.2.1) z.2.2.2.2.2 _ _ fX) (i := 0) rfl (Nat.le_of_ble_eq_true rfl) fX6_rule lL_73 dL_law_589 rfl clsX6 rfl (Nat.le_of_ble_eq_true rfl) hkc hkn (fun h0 => ?_)
  refine gw_al2 K dL_law_592 ?_
  refine gw_al0 K dL_law_593 ?_
  refine gw_il3 K dL_law_594 ?_
  refine gw_iconst (v := 1) K dL_law_595 (by decide) ?_
  refine gw_iadd K dL_law_596 ?_
  refine gw_sld K S dL_law_597 (vp_in_nI (n := 1) (N := 5) (by decide) (by decide)) ?_
  refine gw_callR_r K (uX7_rule z.1 (z.2.1, adM, z.2.2.1, z.2.2.2.1, z.2.2.2.2.1) z.2.2.2.2.2 _ _ fM) (i := 0) rfl (Nat.le_of_ble_eq_true rfl) fX7_rule lL_76 dL_law_598 rfl clsX7 rfl (Nat.le_of_ble_eq_true rfl) hkc hkn (fun h1 => ?_)
  refine gw_icmp_eq (tgt := 1301) K dL_law_601 (by decide) (fun _ => ?_) (fun q => absurd rfl q)
  exact law_next hret K S hkc hkn _
set_option maxHeartbeats 8000000 in
set_option maxRecDepth 100000 in
theorem law_c14 {z : G6} {p : Program} {e : Env} {s : State} {m : MethodId} {below : List Frame} {meth : Method} {c : Code} {b : Nat} {xs : Nat → Int32} {adX adM : Nat → Nat} {kc kn : Nat} (hret : meth.sig.returnType = ret) (K : GOK (z, (13, 600000, 7302250), code, 4, RL) (p, e, s, m, #[Value.ref b], below, meth, c, fun q => s.heap.size ≤ q)) (S : SXP (p, e, s, m, #[Value.ref b], below, meth, c, fun q => s.heap.size ≤ q) b 5 xs) (hkc : kc ≤ 600000) (hkn : kn ≤ 7302250) : GW (z, (13, 600000, 7302250), code, 4, RL) (lw_Z below #[Value.ref b] s) (p, e, s, m, #[Value.ref b], below, meth, c, fun q => s.heap.size ≤ q) (aw_w (gw_wt z adX layX) hX0 ++ aw_w (gw_wt z adM layM) hM0) kc kn 606 [some (.ref b), some (.ref (adX 0)), some (.ref (adM 0)), some (.int 0)] [] := by
  refine gw_al1 K dL_law_606 ?_
  refine gw_al0 K dL_law_607 ?_
  refine gw_il3 K dL_law_608 ?_
  refine gw_iconst (v := 1) K dL_law_609 (by decide) ?_
  refine gw_iadd K dL_law_610 ?_
  refine gw_sld K S dL_law_611 (vp_in_nI (n := 1) (N := 5) (by decide) (by decide)) ?_
  refine gw_callL_r K (uX6_trust z.1 (z.2.1, adX, z.2.2.1, z.2.2.2.1, z.2.2.2.2.1) z.2.2.2.2.2 _ _ fX) (i := 0) rfl (Nat.le_of_ble_eq_true rfl) fX6_trust lL_77 dL_law_612 rfl clsX6 rfl (Nat.le_of_ble_eq_true rfl) hkc hkn (fun h0 => ?_)
  refine gw_al2 K dL_law_615 ?_
  refine gw_al0 K dL_law_616 ?_
  refine gw_il3 K dL_law_617 ?_
  refine gw_iconst (v := 1) K dL_law_618 (by decide) ?_
  refine gw_iadd K dL_law_619 ?_
  refine gw_sld K S dL_law_620 (vp_in_nI (n := 1) (N := 5) (by decide) (by decide)) ?_
  refine gw_callR_r K (uX7_trust z.1 (z.2.1, adM, z.2.2.1, z.2.2.2.1, z.2.2.2.2.1) z.2.2.2.2.2 _ _ fM) (i := 0) rfl (Nat.le_of_ble_eq_true rfl) fX7_trust lL_80 dL_law_621 rfl clsX7 rfl (Nat.le_of_ble_eq_true rfl) hkc hkn (fun h1 => ?_)
  refine gw_icmp_eq (tgt := 1301) K dL_law_624 (by decide) (fun _ => ?_) (fun q => absurd rfl q)
  exact law_next hret K S hkc hkn _
set_option maxHeartbeats 8000000 in
set_option maxRecDepth 100000 in
theorem law_c15 {z : G6} {p : Program} {e : Env} {s : State} {m : MethodId} {below : List Frame} {meth : Method} {c : Code} {b : Nat} {xs : Nat → Int32} {adX adM : Nat → Nat} {kc kn : Nat} (hret : meth.sig.returnType = ret) (K : GOK (z, (13, 600000, 7302250), code, 4, RL) (p, e, s, m, #[Value.ref b], below, meth, c, fun q => s.heap.size ≤ q)) (S : SXP (p, e, s, m, #[Value.ref b], below, meth, c, fun q => s.heap.size ≤ q) b 5 xs) (hkc : kc ≤ 600000) (hkn : kn ≤ 7302250) : GW (z, (13, 600000, 7302250), code, 4, RL) (lw_Z below #[Value.ref b] s) (p, e, s, m, #[Value.ref b], below, meth, c, fun q => s.heap.size ≤ q) (aw_w (gw_wt z adX layX) hX0 ++ aw_w (gw_wt z adM layM) hM0) kc kn 629 [some (.ref b), some (.ref (adX 0)), some (.ref (adM 0)), some (.int 0)] [] := by
  refine gw_al1 K dL_law_629 ?_
  refine gw_al0 K dL_law_630 ?_
  refine gw_il3 K dL_law_631 ?_
  refine gw_iconst (v := 1) K dL_law_632 (by decide) ?_
  refine gw_iadd K dL_law_633 ?_
  refine gw_sld K S dL_law_634 (vp_in_nI (n := 1) (N := 5) (by decide) (by decide)) ?_
  refine gw_callL_r K (uX6_heap z.1 (z.2.1, adX, z.2.2.1, z.2.2.2.1, z.2.2.2.2.1) z.2.2.2.2.2 _ _ fX) (i := 0) rfl (Nat.le_of_ble_eq_true rfl) fX6_heap lL_81 dL_law_635 rfl clsX6 rfl (Nat.le_of_ble_eq_true rfl) hkc hkn (fun h0 => ?_)
  refine gw_al2 K dL_law_638 ?_
  refine gw_al0 K dL_law_639 ?_
  refine gw_il3 K dL_law_640 ?_
  refine gw_iconst (v := 1) K dL_law_641 (by decide) ?_
  refine gw_iadd K dL_law_642 ?_
  refine gw_sld K S dL_law_643 (vp_in_nI (n := 1) (N := 5) (by decide) (by decide)) ?_
  refine gw_callR_r K (uX7_heap z.1 (z.2.1, adM, z.2.2.1, z.2.2.2.1, z.2.2.2.2.1) z.2.2.2.2.2 _ _ fM) (i := 0) rfl (Nat.le_of_ble_eq_true rfl) fX7_heap lL_84 dL_law_644 rfl clsX7 rfl (Nat.le_of_ble_eq_true rfl) hkc hkn (fun h1 => ?_)
  refine gw_icmp_eq (tgt := 1301) K dL_law_647 (by decide) (fun _ => ?_) (fun q => absurd rfl q)
  exact law_next hret K S hkc hkn _
set_option maxHeartbeats 8000000 in
set_option maxRecDepth 100000 in
theorem law_c16 {z : G6} {p : Program} {e : Env} {s : State} {m : MethodId} {below : List Frame} {meth : Method} {c : Code} {b : Nat} {xs : Nat → Int32} {adX adM : Nat → Nat} {kc kn : Nat} (hret : meth.sig.returnType = ret) (K : GOK (z, (13, 600000, 7302250), code, 4, RL) (p, e, s, m, #[Value.ref b], below, meth, c, fun q => s.heap.size ≤ q)) (S : SXP (p, e, s, m, #[Value.ref b], below, meth, c, fun q => s.heap.size ≤ q) b 5 xs) (hkc : kc ≤ 600000) (hkn : kn ≤ 7302250) : GW (z, (13, 600000, 7302250), code, 4, RL) (lw_Z below #[Value.ref b] s) (p, e, s, m, #[Value.ref b], below, meth, c, fun q => s.heap.size ≤ q) (aw_w (gw_wt z adX layX) hX0 ++ aw_w (gw_wt z adM layM) hM0) kc kn 652 [some (.ref b), some (.ref (adX 0)), some (.ref (adM 0)), some (.int 0)] [] := by
  refine gw_al1 K dL_law_652 ?_
  refine gw_al0 K dL_law_653 ?_
  refine gw_il3 K dL_law_654 ?_
  refine gw_iconst (v := 1) K dL_law_655 (by decide) ?_
  refine gw_iadd K dL_law_656 ?_
  refine gw_sld K S dL_law_657 (vp_in_nI (n := 1) (N := 5) (by decide) (by decide)) ?_
  refine gw_al0 K dL_law_658 ?_
  refine gw_il3 K dL_law_659 ?_
  refine gw_iconst (v := 2) K dL_law_660 (by decide) ?_
  refine gw_iadd K dL_law_661 ?_
  refine gw_sld K S dL_law_662 (vp_in_nI (n := 2) (N := 5) (by decide) (by decide)) ?_
  refine gw_callL_r K (uX6_cut z.1 (z.2.1, adX, z.2.2.1, z.2.2.2.1, z.2.2.2.2.1) z.2.2.2.2.2 _ _ _ fX) (i := 0) rfl (Nat.le_of_ble_eq_true rfl) fX6_cut lL_85 dL_law_663 rfl clsX6 rfl (Nat.le_of_ble_eq_true rfl) hkc hkn (fun h0 => ?_)
  refine gw_al2 K dL_law_666 ?_
  refine gw_al0 K dL_law_667 ?_
  refine gw_il3 K dL_law_668 ?_
  refine gw_iconst (v := 1) K dL_law_669 (by decide) ?_
  refine gw_iadd K dL_law_670 ?_
  refine gw_sld K S dL_law_671 (vp_in_nI (n := 1) (N := 5) (by decide) (by decide)) ?_
  refine gw_al0 K dL_law_672 ?_
  refine gw_il3 K dL_law_673 ?_
  refine gw_iconst (v := 2) K dL_law_674 (by decide) ?_
  refine gw_iadd K dL_law_675 ?_
  refine gw_sld K S dL_law_676 (vp_in_nI (n := 2) (N := 5) (by decide) (by decide)) ?_
  refine gw_callR_r K (uX7_cut z.1 (z.2.1, adM, z.2.2.1, z.2.2.2.1, z.2.2.2.2.1) z.2.2.2.2.2 _ _ _ fM) (i := 0) rfl (Nat.le_of_ble_eq_true rfl) fX7_cut lL_88 dL_law_677 rfl clsX7 rfl (Nat.le_of_ble_eq_true rfl) hkc hkn (fun h1 => ?_)
  refine gw_icmp_eq (tgt := 1301) K dL_law_680 (by decide) (fun _ => ?_) (fun q => absurd rfl q)
  exact law_next hret K S hkc hkn _
set_option maxHeartbeats 8000000 in
set_option maxRecDepth 100000 in
theorem law_c17 {z : G6} {p : Program} {e : Env} {s : State} {m : MethodId} {below : List Frame} {meth : Method} {c : Code} {b : Nat} {xs : Nat → Int32} {adX adM : Nat → Nat} {kc kn : Nat} (hret : meth.sig.returnType = ret) (K : GOK (z, (13, 600000, 7302250), code, 4, RL) (p, e, s, m, #[Value.ref b], below, meth, c, fun q => s.heap.size ≤ q)) (S : SXP (p, e, s, m, #[Value.ref b], below, meth, c, fun q => s.heap.size ≤ q) b 5 xs) (hkc : kc ≤ 600000) (hkn : kn ≤ 7302250) : GW (z, (13, 600000, 7302250), code, 4, RL) (lw_Z below #[Value.ref b] s) (p, e, s, m, #[Value.ref b], below, meth, c, fun q => s.heap.size ≤ q) (aw_w (gw_wt z adX layX) hX0 ++ aw_w (gw_wt z adM layM) hM0) kc kn 685 [some (.ref b), some (.ref (adX 0)), some (.ref (adM 0)), some (.int 0)] [] := by
  refine gw_al1 K dL_law_685 ?_
  refine gw_al0 K dL_law_686 ?_
  refine gw_il3 K dL_law_687 ?_
  refine gw_iconst (v := 1) K dL_law_688 (by decide) ?_
  refine gw_iadd K dL_law_689 ?_
  refine gw_sld K S dL_law_690 (vp_in_nI (n := 1) (N := 5) (by decide) (by decide)) ?_
  refine gw_callL_r K (uX6_low z.1 (z.2.1, adX, z.2.2.1, z.2.2.2.1, z.2.2.2.2.1) z.2.2.2.2.2 _ _ fX) (i := 0) rfl (Nat.le_of_ble_eq_true rfl) fX6_low lL_89 dL_law_691 rfl clsX6 rfl (Nat.le_of_ble_eq_true rfl) hkc hkn (fun h0 => ?_)
  refine gw_al2 K dL_law_694 ?_
  refine gw_al0 K dL_law_695 ?_
  refine gw_il3 K dL_law_696 ?_
  refine gw_iconst (v := 1) K dL_law_697 (by decide) ?_
  refine gw_iadd K dL_law_698 ?_
  refine gw_sld K S dL_law_699 (vp_in_nI (n := 1) (N := 5) (by decide) (by decide)) ?_
  refine gw_callR_r K (uX7_low z.1 (z.2.1, adM, z.2.2.1, z.2.2.2.1, z.2.2.2.2.1) z.2.2.2.2.2 _ _ fM) (i := 0) rfl (Nat.le_of_ble_eq_true rfl) fX7_low lL_92 dL_law_700 rfl clsX7 rfl (Nat.le_of_ble_eq_true rfl) hkc hkn (fun h1 => ?_)
  refine gw_icmp_eq (tgt := 1301) K dL_law_703 (by decide) (fun _ => ?_) (fun q => absurd rfl q)
  exact law_next hret K S hkc hkn _
set_option maxHeartbeats 8000000 in
set_option maxRecDepth 100000 in
theorem law_c18 {z : G6} {p : Program} {e : Env} {s : State} {m : MethodId} {below : List Frame} {meth : Method} {c : Code} {b : Nat} {xs : Nat → Int32} {adX adM : Nat → Nat} {kc kn : Nat} (hret : meth.sig.returnType = ret) (K : GOK (z, (13, 600000, 7302250), code, 4, RL) (p, e, s, m, #[Value.ref b], below, meth, c, fun q => s.heap.size ≤ q)) (S : SXP (p, e, s, m, #[Value.ref b], below, meth, c, fun q => s.heap.size ≤ q) b 5 xs) (hkc : kc ≤ 600000) (hkn : kn ≤ 7302250) : GW (z, (13, 600000, 7302250), code, 4, RL) (lw_Z below #[Value.ref b] s) (p, e, s, m, #[Value.ref b], below, meth, c, fun q => s.heap.size ≤ q) (aw_w (gw_wt z adX layX) hX0 ++ aw_w (gw_wt z adM layM) hM0) kc kn 708 [some (.ref b), some (.ref (adX 0)), some (.ref (adM 0)), some (.int 0)] [] := by
  refine gw_al1 K dL_law_708 ?_
  refine gw_al0 K dL_law_709 ?_
  refine gw_il3 K dL_law_710 ?_
  refine gw_iconst (v := 1) K dL_law_711 (by decide) ?_
  refine gw_iadd K dL_law_712 ?_
  refine gw_sld K S dL_law_713 (vp_in_nI (n := 1) (N := 5) (by decide) (by decide)) ?_
  refine gw_callL_r K (uX6_twins z.1 (z.2.1, adX, z.2.2.1, z.2.2.2.1, z.2.2.2.2.1) z.2.2.2.2.2 _ _ fX) (i := 0) rfl (Nat.le_of_ble_eq_true rfl) fX6_twins lL_93 dL_law_714 rfl clsX6 rfl (Nat.le_of_ble_eq_true rfl) hkc hkn (fun h0 => ?_)
  refine gw_al2 K dL_law_717 ?_
  refine gw_al0 K dL_law_718 ?_
  refine gw_il3 K dL_law_719 ?_
  refine gw_iconst (v := 1) K dL_law_720 (by decide) ?_
  refine gw_iadd K dL_law_721 ?_
  refine gw_sld K S dL_law_722 (vp_in_nI (n := 1) (N := 5) (by decide) (by decide)) ?_
  refine gw_callR_r K (uX7_twins z.1 (z.2.1, adM, z.2.2.1, z.2.2.2.1, z.2.2.2.2.1) z.2.2.2.2.2 _ _ fM) (i := 0) rfl (Nat.le_of_ble_eq_true rfl) fX7_twins lL_96 dL_law_723 rfl clsX7 rfl (Nat.le_of_ble_eq_true rfl) hkc hkn (fun h1 => ?_)
  refine gw_icmp_eq (tgt := 1301) K dL_law_726 (by decide) (fun _ => ?_) (fun q => absurd rfl q)
  exact law_next hret K S hkc hkn _
set_option maxHeartbeats 8000000 in
set_option maxRecDepth 100000 in
theorem law_c19 {z : G6} {p : Program} {e : Env} {s : State} {m : MethodId} {below : List Frame} {meth : Method} {c : Code} {b : Nat} {xs : Nat → Int32} {adX adM : Nat → Nat} {kc kn : Nat} (hret : meth.sig.returnType = ret) (K : GOK (z, (13, 600000, 7302250), code, 4, RL) (p, e, s, m, #[Value.ref b], below, meth, c, fun q => s.heap.size ≤ q)) (S : SXP (p, e, s, m, #[Value.ref b], below, meth, c, fun q => s.heap.size ≤ q) b 5 xs) (hkc : kc ≤ 600000) (hkn : kn ≤ 7302250) : GW (z, (13, 600000, 7302250), code, 4, RL) (lw_Z below #[Value.ref b] s) (p, e, s, m, #[Value.ref b], below, meth, c, fun q => s.heap.size ≤ q) (aw_w (gw_wt z adX layX) hX0 ++ aw_w (gw_wt z adM layM) hM0) kc kn 731 [some (.ref b), some (.ref (adX 0)), some (.ref (adM 0)), some (.int 0)] [] := by
  refine gw_al1 K dL_law_731 ?_
  refine gw_al0 K dL_law_732 ?_
  refine gw_il3 K dL_law_733 ?_
  refine gw_iconst (v := 1) K dL_law_734 (by decide) ?_
  refine gw_iadd K dL_law_735 ?_
  refine gw_sld K S dL_law_736 (vp_in_nI (n := 1) (N := 5) (by decide) (by decide)) ?_
  refine gw_al0 K dL_law_737 ?_
  refine gw_il3 K dL_law_738 ?_
  refine gw_iconst (v := 2) K dL_law_739 (by decide) ?_
  refine gw_iadd K dL_law_740 ?_
  refine gw_sld K S dL_law_741 (vp_in_nI (n := 2) (N := 5) (by decide) (by decide)) ?_
  refine gw_al0 K dL_law_742 ?_
  refine gw_il3 K dL_law_743 ?_
  refine gw_iconst (v := 3) K dL_law_744 (by decide) ?_
  refine gw_iadd K dL_law_745 ?_
  refine gw_sld K S dL_law_746 (vp_in_nI (n := 3) (N := 5) (by decide) (by decide)) ?_
  refine gw_al0 K dL_law_747 ?_
  refine gw_il3 K dL_law_748 ?_
  refine gw_iconst (v := 4) K dL_law_749 (by decide) ?_
  refine gw_iadd K dL_law_750 ?_
  refine gw_sld K S dL_law_751 (vp_in_nI (n := 4) (N := 5) (by decide) (by decide)) ?_
  refine gw_callL_r K (uX6_word z.1 (z.2.1, adX, z.2.2.1, z.2.2.2.1, z.2.2.2.2.1) z.2.2.2.2.2 _ _ _ _ _ fX) (i := 0) rfl (Nat.le_of_ble_eq_true rfl) fX6_word lL_97 dL_law_752 rfl clsX6 rfl (Nat.le_of_ble_eq_true rfl) hkc hkn (fun h0 => ?_)
  refine gw_al2 K dL_law_755 ?_
  refine gw_al0 K dL_law_756 ?_
  refine gw_il3 K dL_law_757 ?_
  refine gw_iconst (v := 1) K dL_law_758 (by decide) ?_
  refine gw_iadd K dL_law_759 ?_
  refine gw_sld K S dL_law_760 (vp_in_nI (n := 1) (N := 5) (by decide) (by decide)) ?_
  refine gw_al0 K dL_law_761 ?_
  refine gw_il3 K dL_law_762 ?_
  refine gw_iconst (v := 2) K dL_law_763 (by decide) ?_
  refine gw_iadd K dL_law_764 ?_
  refine gw_sld K S dL_law_765 (vp_in_nI (n := 2) (N := 5) (by decide) (by decide)) ?_
  refine gw_al0 K dL_law_766 ?_
  refine gw_il3 K dL_law_767 ?_
  refine gw_iconst (v := 3) K dL_law_768 (by decide) ?_
  refine gw_iadd K dL_law_769 ?_
  refine gw_sld K S dL_law_770 (vp_in_nI (n := 3) (N := 5) (by decide) (by decide)) ?_
  refine gw_al0 K dL_law_771 ?_
  refine gw_il3 K dL_law_772 ?_
  refine gw_iconst (v := 4) K dL_law_773 (by decide) ?_
  refine gw_iadd K dL_law_774 ?_
  refine gw_sld K S dL_law_775 (vp_in_nI (n := 4) (N := 5) (by decide) (by decide)) ?_
  refine gw_callR_r K (uX7_word z.1 (z.2.1, adM, z.2.2.1, z.2.2.2.1, z.2.2.2.2.1) z.2.2.2.2.2 _ _ _ _ _ fM) (i := 0) rfl (Nat.le_of_ble_eq_true rfl) fX7_word lL_100 dL_law_776 rfl clsX7 rfl (Nat.le_of_ble_eq_true rfl) hkc hkn (fun h1 => ?_)
  refine gw_icmp_eq (tgt := 1301) K dL_law_779 (by decide) (fun _ => ?_) (fun q => absurd rfl q)
  exact law_next hret K S hkc hkn _
set_option maxHeartbeats 8000000 in
set_option maxRecDepth 100000 in
theorem law_c20 {z : G6} {p : Program} {e : Env} {s : State} {m : MethodId} {below : List Frame} {meth : Method} {c : Code} {b : Nat} {xs : Nat → Int32} {adX adM : Nat → Nat} {kc kn : Nat} (hret : meth.sig.returnType = ret) (K : GOK (z, (13, 600000, 7302250), code, 4, RL) (p, e, s, m, #[Value.ref b], below, meth, c, fun q => s.heap.size ≤ q)) (S : SXP (p, e, s, m, #[Value.ref b], below, meth, c, fun q => s.heap.size ≤ q) b 5 xs) (hkc : kc ≤ 600000) (hkn : kn ≤ 7302250) : GW (z, (13, 600000, 7302250), code, 4, RL) (lw_Z below #[Value.ref b] s) (p, e, s, m, #[Value.ref b], below, meth, c, fun q => s.heap.size ≤ q) (aw_w (gw_wt z adX layX) hX0 ++ aw_w (gw_wt z adM layM) hM0) kc kn 784 [some (.ref b), some (.ref (adX 0)), some (.ref (adM 0)), some (.int 0)] [] := by
  refine gw_al1 K dL_law_784 ?_
  refine gw_al0 K dL_law_785 ?_
  refine gw_il3 K dL_law_786 ?_
  refine gw_iconst (v := 1) K dL_law_787 (by decide) ?_
  refine gw_iadd K dL_law_788 ?_
  refine gw_sld K S dL_law_789 (vp_in_nI (n := 1) (N := 5) (by decide) (by decide)) ?_
  refine gw_al0 K dL_law_790 ?_
  refine gw_il3 K dL_law_791 ?_
  refine gw_iconst (v := 2) K dL_law_792 (by decide) ?_
  refine gw_iadd K dL_law_793 ?_
  refine gw_sld K S dL_law_794 (vp_in_nI (n := 2) (N := 5) (by decide) (by decide)) ?_
  refine gw_callL_r K (uX6_wordOf z.1 (z.2.1, adX, z.2.2.1, z.2.2.2.1, z.2.2.2.2.1) z.2.2.2.2.2 _ _ _ fX) (i := 0) rfl (Nat.le_of_ble_eq_true rfl) fX6_wordOf lL_101 dL_law_795 rfl clsX6 rfl (Nat.le_of_ble_eq_true rfl) hkc hkn (fun h0 => ?_)
  refine gw_al2 K dL_law_798 ?_
  refine gw_al0 K dL_law_799 ?_
  refine gw_il3 K dL_law_800 ?_
  refine gw_iconst (v := 1) K dL_law_801 (by decide) ?_
  refine gw_iadd K dL_law_802 ?_
  refine gw_sld K S dL_law_803 (vp_in_nI (n := 1) (N := 5) (by decide) (by decide)) ?_
  refine gw_al0 K dL_law_804 ?_
  refine gw_il3 K dL_law_805 ?_
  refine gw_iconst (v := 2) K dL_law_806 (by decide) ?_
  refine gw_iadd K dL_law_807 ?_
  refine gw_sld K S dL_law_808 (vp_in_nI (n := 2) (N := 5) (by decide) (by decide)) ?_
  refine gw_callR_r K (uX7_wordOf z.1 (z.2.1, adM, z.2.2.1, z.2.2.2.1, z.2.2.2.2.1) z.2.2.2.2.2 _ _ _ fM) (i := 0) rfl (Nat.le_of_ble_eq_true rfl) fX7_wordOf lL_104 dL_law_809 rfl clsX7 rfl (Nat.le_of_ble_eq_true rfl) hkc hkn (fun h1 => ?_)
  refine gw_icmp_eq (tgt := 1301) K dL_law_812 (by decide) (fun _ => ?_) (fun q => absurd rfl q)
  exact law_next hret K S hkc hkn _
set_option maxHeartbeats 8000000 in
set_option maxRecDepth 100000 in
theorem law_c21 {z : G6} {p : Program} {e : Env} {s : State} {m : MethodId} {below : List Frame} {meth : Method} {c : Code} {b : Nat} {xs : Nat → Int32} {adX adM : Nat → Nat} {kc kn : Nat} (hret : meth.sig.returnType = ret) (K : GOK (z, (13, 600000, 7302250), code, 4, RL) (p, e, s, m, #[Value.ref b], below, meth, c, fun q => s.heap.size ≤ q)) (S : SXP (p, e, s, m, #[Value.ref b], below, meth, c, fun q => s.heap.size ≤ q) b 5 xs) (hkc : kc ≤ 600000) (hkn : kn ≤ 7302250) : GW (z, (13, 600000, 7302250), code, 4, RL) (lw_Z below #[Value.ref b] s) (p, e, s, m, #[Value.ref b], below, meth, c, fun q => s.heap.size ≤ q) (aw_w (gw_wt z adX layX) hX0 ++ aw_w (gw_wt z adM layM) hM0) kc kn 817 [some (.ref b), some (.ref (adX 0)), some (.ref (adM 0)), some (.int 0)] [] := by
  refine gw_al1 K dL_law_817 ?_
  refine gw_al0 K dL_law_818 ?_
  refine gw_il3 K dL_law_819 ?_
  refine gw_iconst (v := 1) K dL_law_820 (by decide) ?_
  refine gw_iadd K dL_law_821 ?_
  refine gw_sld K S dL_law_822 (vp_in_nI (n := 1) (N := 5) (by decide) (by decide)) ?_
  refine gw_al0 K dL_law_823 ?_
  refine gw_il3 K dL_law_824 ?_
  refine gw_iconst (v := 2) K dL_law_825 (by decide) ?_
  refine gw_iadd K dL_law_826 ?_
  refine gw_sld K S dL_law_827 (vp_in_nI (n := 2) (N := 5) (by decide) (by decide)) ?_
  refine gw_callL_r K (uX6_weight z.1 (z.2.1, adX, z.2.2.1, z.2.2.2.1, z.2.2.2.2.1) z.2.2.2.2.2 _ _ _ fX) (i := 0) rfl (Nat.le_of_ble_eq_true rfl) fX6_weight lL_105 dL_law_828 rfl clsX6 rfl (Nat.le_of_ble_eq_true rfl) hkc hkn (fun h0 => ?_)
  refine gw_al2 K dL_law_831 ?_
  refine gw_al0 K dL_law_832 ?_
  refine gw_il3 K dL_law_833 ?_
  refine gw_iconst (v := 1) K dL_law_834 (by decide) ?_
  refine gw_iadd K dL_law_835 ?_
  refine gw_sld K S dL_law_836 (vp_in_nI (n := 1) (N := 5) (by decide) (by decide)) ?_
  refine gw_al0 K dL_law_837 ?_
  refine gw_il3 K dL_law_838 ?_
  refine gw_iconst (v := 2) K dL_law_839 (by decide) ?_
  refine gw_iadd K dL_law_840 ?_
  refine gw_sld K S dL_law_841 (vp_in_nI (n := 2) (N := 5) (by decide) (by decide)) ?_
  refine gw_callR_r K (uX7_weight z.1 (z.2.1, adM, z.2.2.1, z.2.2.2.1, z.2.2.2.2.1) z.2.2.2.2.2 _ _ _ fM) (i := 0) rfl (Nat.le_of_ble_eq_true rfl) fX7_weight lL_108 dL_law_842 rfl clsX7 rfl (Nat.le_of_ble_eq_true rfl) hkc hkn (fun h1 => ?_)
  refine gw_icmp_eq (tgt := 1301) K dL_law_845 (by decide) (fun _ => ?_) (fun q => absurd rfl q)
  exact law_next hret K S hkc hkn _
set_option maxHeartbeats 8000000 in
set_option maxRecDepth 100000 in
theorem law_c22 {z : G6} {p : Program} {e : Env} {s : State} {m : MethodId} {below : List Frame} {meth : Method} {c : Code} {b : Nat} {xs : Nat → Int32} {adX adM : Nat → Nat} {kc kn : Nat} (hret : meth.sig.returnType = ret) (K : GOK (z, (13, 600000, 7302250), code, 4, RL) (p, e, s, m, #[Value.ref b], below, meth, c, fun q => s.heap.size ≤ q)) (S : SXP (p, e, s, m, #[Value.ref b], below, meth, c, fun q => s.heap.size ≤ q) b 5 xs) (hkc : kc ≤ 600000) (hkn : kn ≤ 7302250) : GW (z, (13, 600000, 7302250), code, 4, RL) (lw_Z below #[Value.ref b] s) (p, e, s, m, #[Value.ref b], below, meth, c, fun q => s.heap.size ≤ q) (aw_w (gw_wt z adX layX) hX0 ++ aw_w (gw_wt z adM layM) hM0) kc kn 850 [some (.ref b), some (.ref (adX 0)), some (.ref (adM 0)), some (.int 0)] [] := by
  refine gw_al1 K dL_law_850 ?_
  refine gw_al0 K dL_law_851 ?_
  refine gw_il3 K dL_law_852 ?_
  refine gw_iconst (v := 1) K dL_law_853 (by decide) ?_
  refine gw_iadd K dL_law_854 ?_
  refine gw_sld K S dL_law_855 (vp_in_nI (n := 1) (N := 5) (by decide) (by decide)) ?_
  refine gw_callL_r K (uX6_sayers z.1 (z.2.1, adX, z.2.2.1, z.2.2.2.1, z.2.2.2.2.1) z.2.2.2.2.2 _ _ fX) (i := 0) rfl (Nat.le_of_ble_eq_true rfl) fX6_sayers lL_109 dL_law_856 rfl clsX6 rfl (Nat.le_of_ble_eq_true rfl) hkc hkn (fun h0 => ?_)
  refine gw_al2 K dL_law_859 ?_
  refine gw_al0 K dL_law_860 ?_
  refine gw_il3 K dL_law_861 ?_
  refine gw_iconst (v := 1) K dL_law_862 (by decide) ?_
  refine gw_iadd K dL_law_863 ?_
  refine gw_sld K S dL_law_864 (vp_in_nI (n := 1) (N := 5) (by decide) (by decide)) ?_
  refine gw_callR_r K (uX7_sayers z.1 (z.2.1, adM, z.2.2.1, z.2.2.2.1, z.2.2.2.2.1) z.2.2.2.2.2 _ _ fM) (i := 0) rfl (Nat.le_of_ble_eq_true rfl) fX7_sayers lL_112 dL_law_865 rfl clsX7 rfl (Nat.le_of_ble_eq_true rfl) hkc hkn (fun h1 => ?_)
  refine gw_icmp_eq (tgt := 1301) K dL_law_868 (by decide) (fun _ => ?_) (fun q => absurd rfl q)
  exact law_next hret K S hkc hkn _
set_option maxHeartbeats 8000000 in
set_option maxRecDepth 100000 in
theorem law_c23 {z : G6} {p : Program} {e : Env} {s : State} {m : MethodId} {below : List Frame} {meth : Method} {c : Code} {b : Nat} {xs : Nat → Int32} {adX adM : Nat → Nat} {kc kn : Nat} (hret : meth.sig.returnType = ret) (K : GOK (z, (13, 600000, 7302250), code, 4, RL) (p, e, s, m, #[Value.ref b], below, meth, c, fun q => s.heap.size ≤ q)) (S : SXP (p, e, s, m, #[Value.ref b], below, meth, c, fun q => s.heap.size ≤ q) b 5 xs) (hkc : kc ≤ 600000) (hkn : kn ≤ 7302250) : GW (z, (13, 600000, 7302250), code, 4, RL) (lw_Z below #[Value.ref b] s) (p, e, s, m, #[Value.ref b], below, meth, c, fun q => s.heap.size ≤ q) (aw_w (gw_wt z adX layX) hX0 ++ aw_w (gw_wt z adM layM) hM0) kc kn 873 [some (.ref b), some (.ref (adX 0)), some (.ref (adM 0)), some (.int 0)] [] := by
  refine gw_al1 K dL_law_873 ?_
  refine gw_al0 K dL_law_874 ?_
  refine gw_il3 K dL_law_875 ?_
  refine gw_iconst (v := 1) K dL_law_876 (by decide) ?_
  refine gw_iadd K dL_law_877 ?_
  refine gw_sld K S dL_law_878 (vp_in_nI (n := 1) (N := 5) (by decide) (by decide)) ?_
  refine gw_al0 K dL_law_879 ?_
  refine gw_il3 K dL_law_880 ?_
  refine gw_iconst (v := 2) K dL_law_881 (by decide) ?_
  refine gw_iadd K dL_law_882 ?_
  refine gw_sld K S dL_law_883 (vp_in_nI (n := 2) (N := 5) (by decide) (by decide)) ?_
  refine gw_callL_r K (uX6_mark z.1 (z.2.1, adX, z.2.2.1, z.2.2.2.1, z.2.2.2.2.1) z.2.2.2.2.2 _ _ _ fX) (i := 0) rfl (Nat.le_of_ble_eq_true rfl) fX6_mark lL_113 dL_law_884 rfl clsX6 rfl (Nat.le_of_ble_eq_true rfl) hkc hkn (fun h0 => ?_)
  refine gw_al2 K dL_law_887 ?_
  refine gw_al0 K dL_law_888 ?_
  refine gw_il3 K dL_law_889 ?_
  refine gw_iconst (v := 1) K dL_law_890 (by decide) ?_
  refine gw_iadd K dL_law_891 ?_
  refine gw_sld K S dL_law_892 (vp_in_nI (n := 1) (N := 5) (by decide) (by decide)) ?_
  refine gw_al0 K dL_law_893 ?_
  refine gw_il3 K dL_law_894 ?_
  refine gw_iconst (v := 2) K dL_law_895 (by decide) ?_
  refine gw_iadd K dL_law_896 ?_
  refine gw_sld K S dL_law_897 (vp_in_nI (n := 2) (N := 5) (by decide) (by decide)) ?_
  refine gw_callR_r K (uX7_mark z.1 (z.2.1, adM, z.2.2.1, z.2.2.2.1, z.2.2.2.2.1) z.2.2.2.2.2 _ _ _ fM) (i := 0) rfl (Nat.le_of_ble_eq_true rfl) fX7_mark lL_116 dL_law_898 rfl clsX7 rfl (Nat.le_of_ble_eq_true rfl) hkc hkn (fun h1 => ?_)
  refine gw_icmp_eq (tgt := 1301) K dL_law_901 (by decide) (fun _ => ?_) (fun q => absurd rfl q)
  exact law_next hret K S hkc hkn _
set_option maxHeartbeats 8000000 in
set_option maxRecDepth 100000 in
theorem law_c24 {z : G6} {p : Program} {e : Env} {s : State} {m : MethodId} {below : List Frame} {meth : Method} {c : Code} {b : Nat} {xs : Nat → Int32} {adX adM : Nat → Nat} {kc kn : Nat} (hret : meth.sig.returnType = ret) (K : GOK (z, (13, 600000, 7302250), code, 4, RL) (p, e, s, m, #[Value.ref b], below, meth, c, fun q => s.heap.size ≤ q)) (S : SXP (p, e, s, m, #[Value.ref b], below, meth, c, fun q => s.heap.size ≤ q) b 5 xs) (hkc : kc ≤ 600000) (hkn : kn ≤ 7302250) : GW (z, (13, 600000, 7302250), code, 4, RL) (lw_Z below #[Value.ref b] s) (p, e, s, m, #[Value.ref b], below, meth, c, fun q => s.heap.size ≤ q) (aw_w (gw_wt z adX layX) hX0 ++ aw_w (gw_wt z adM layM) hM0) kc kn 906 [some (.ref b), some (.ref (adX 0)), some (.ref (adM 0)), some (.int 0)] [] := by
  refine gw_al1 K dL_law_906 ?_
  refine gw_al0 K dL_law_907 ?_
  refine gw_il3 K dL_law_908 ?_
  refine gw_iconst (v := 1) K dL_law_909 (by decide) ?_
  refine gw_iadd K dL_law_910 ?_
  refine gw_sld K S dL_law_911 (vp_in_nI (n := 1) (N := 5) (by decide) (by decide)) ?_
  refine gw_al0 K dL_law_912 ?_
  refine gw_il3 K dL_law_913 ?_
  refine gw_iconst (v := 2) K dL_law_914 (by decide) ?_
  refine gw_iadd K dL_law_915 ?_
  refine gw_sld K S dL_law_916 (vp_in_nI (n := 2) (N := 5) (by decide) (by decide)) ?_
  refine gw_al0 K dL_law_917 ?_
  refine gw_il3 K dL_law_918 ?_
  refine gw_iconst (v := 3) K dL_law_919 (by decide) ?_
  refine gw_iadd K dL_law_920 ?_
  refine gw_sld K S dL_law_921 (vp_in_nI (n := 3) (N := 5) (by decide) (by decide)) ?_
  refine gw_callL_r K (uX6_span z.1 (z.2.1, adX, z.2.2.1, z.2.2.2.1, z.2.2.2.2.1) z.2.2.2.2.2 _ _ _ _ fX) (i := 0) rfl (Nat.le_of_ble_eq_true rfl) fX6_span lL_117 dL_law_922 rfl clsX6 rfl (Nat.le_of_ble_eq_true rfl) hkc hkn (fun h0 => ?_)
  refine gw_al2 K dL_law_925 ?_
  refine gw_al0 K dL_law_926 ?_
  refine gw_il3 K dL_law_927 ?_
  refine gw_iconst (v := 1) K dL_law_928 (by decide) ?_
  refine gw_iadd K dL_law_929 ?_
  refine gw_sld K S dL_law_930 (vp_in_nI (n := 1) (N := 5) (by decide) (by decide)) ?_
  refine gw_al0 K dL_law_931 ?_
  refine gw_il3 K dL_law_932 ?_
  refine gw_iconst (v := 2) K dL_law_933 (by decide) ?_
  refine gw_iadd K dL_law_934 ?_
  refine gw_sld K S dL_law_935 (vp_in_nI (n := 2) (N := 5) (by decide) (by decide)) ?_
  refine gw_al0 K dL_law_936 ?_
  refine gw_il3 K dL_law_937 ?_
  refine gw_iconst (v := 3) K dL_law_938 (by decide) ?_
  refine gw_iadd K dL_law_939 ?_
  refine gw_sld K S dL_law_940 (vp_in_nI (n := 3) (N := 5) (by decide) (by decide)) ?_
  refine gw_callR_r K (uX7_span z.1 (z.2.1, adM, z.2.2.1, z.2.2.2.1, z.2.2.2.2.1) z.2.2.2.2.2 _ _ _ _ fM) (i := 0) rfl (Nat.le_of_ble_eq_true rfl) fX7_span lL_121 dL_law_941 rfl clsX7 rfl (Nat.le_of_ble_eq_true rfl) hkc hkn (fun h1 => ?_)
  refine gw_icmp_eq (tgt := 1301) K dL_law_944 (by decide) (fun _ => ?_) (fun q => absurd rfl q)
  exact law_next hret K S hkc hkn _
set_option maxHeartbeats 8000000 in
set_option maxRecDepth 100000 in
theorem law_c25 {z : G6} {p : Program} {e : Env} {s : State} {m : MethodId} {below : List Frame} {meth : Method} {c : Code} {b : Nat} {xs : Nat → Int32} {adX adM : Nat → Nat} {kc kn : Nat} (hret : meth.sig.returnType = ret) (K : GOK (z, (13, 600000, 7302250), code, 4, RL) (p, e, s, m, #[Value.ref b], below, meth, c, fun q => s.heap.size ≤ q)) (S : SXP (p, e, s, m, #[Value.ref b], below, meth, c, fun q => s.heap.size ≤ q) b 5 xs) (hkc : kc ≤ 600000) (hkn : kn ≤ 7302250) : GW (z, (13, 600000, 7302250), code, 4, RL) (lw_Z below #[Value.ref b] s) (p, e, s, m, #[Value.ref b], below, meth, c, fun q => s.heap.size ≤ q) (aw_w (gw_wt z adX layX) hX0 ++ aw_w (gw_wt z adM layM) hM0) kc kn 949 [some (.ref b), some (.ref (adX 0)), some (.ref (adM 0)), some (.int 0)] [] := by
  refine gw_al1 K dL_law_949 ?_
  refine gw_al0 K dL_law_950 ?_
  refine gw_il3 K dL_law_951 ?_
  refine gw_iconst (v := 1) K dL_law_952 (by decide) ?_
  refine gw_iadd K dL_law_953 ?_
  refine gw_sld K S dL_law_954 (vp_in_nI (n := 1) (N := 5) (by decide) (by decide)) ?_
  refine gw_al0 K dL_law_955 ?_
  refine gw_il3 K dL_law_956 ?_
  refine gw_iconst (v := 2) K dL_law_957 (by decide) ?_
  refine gw_iadd K dL_law_958 ?_
  refine gw_sld K S dL_law_959 (vp_in_nI (n := 2) (N := 5) (by decide) (by decide)) ?_
  refine gw_callL_r K (uX6_ring z.1 (z.2.1, adX, z.2.2.1, z.2.2.2.1, z.2.2.2.2.1) z.2.2.2.2.2 _ _ _ fX) (i := 0) rfl (Nat.le_of_ble_eq_true rfl) fX6_ring lL_122 dL_law_960 rfl clsX6 rfl (Nat.le_of_ble_eq_true rfl) hkc hkn (fun h0 => ?_)
  refine gw_al2 K dL_law_963 ?_
  refine gw_al0 K dL_law_964 ?_
  refine gw_il3 K dL_law_965 ?_
  refine gw_iconst (v := 1) K dL_law_966 (by decide) ?_
  refine gw_iadd K dL_law_967 ?_
  refine gw_sld K S dL_law_968 (vp_in_nI (n := 1) (N := 5) (by decide) (by decide)) ?_
  refine gw_al0 K dL_law_969 ?_
  refine gw_il3 K dL_law_970 ?_
  refine gw_iconst (v := 2) K dL_law_971 (by decide) ?_
  refine gw_iadd K dL_law_972 ?_
  refine gw_sld K S dL_law_973 (vp_in_nI (n := 2) (N := 5) (by decide) (by decide)) ?_
  refine gw_callR_r K (uX7_ring z.1 (z.2.1, adM, z.2.2.1, z.2.2.2.1, z.2.2.2.2.1) z.2.2.2.2.2 _ _ _ fM) (i := 0) rfl (Nat.le_of_ble_eq_true rfl) fX7_ring lL_125 dL_law_974 rfl clsX7 rfl (Nat.le_of_ble_eq_true rfl) hkc hkn (fun h1 => ?_)
  refine gw_icmp_eq (tgt := 1301) K dL_law_977 (by decide) (fun _ => ?_) (fun q => absurd rfl q)
  exact law_next hret K S hkc hkn _
set_option maxHeartbeats 8000000 in
set_option maxRecDepth 100000 in
theorem law_c26 {z : G6} {p : Program} {e : Env} {s : State} {m : MethodId} {below : List Frame} {meth : Method} {c : Code} {b : Nat} {xs : Nat → Int32} {adX adM : Nat → Nat} {kc kn : Nat} (hret : meth.sig.returnType = ret) (K : GOK (z, (13, 600000, 7302250), code, 4, RL) (p, e, s, m, #[Value.ref b], below, meth, c, fun q => s.heap.size ≤ q)) (S : SXP (p, e, s, m, #[Value.ref b], below, meth, c, fun q => s.heap.size ≤ q) b 5 xs) (hkc : kc ≤ 600000) (hkn : kn ≤ 7302250) : GW (z, (13, 600000, 7302250), code, 4, RL) (lw_Z below #[Value.ref b] s) (p, e, s, m, #[Value.ref b], below, meth, c, fun q => s.heap.size ≤ q) (aw_w (gw_wt z adX layX) hX0 ++ aw_w (gw_wt z adM layM) hM0) kc kn 982 [some (.ref b), some (.ref (adX 0)), some (.ref (adM 0)), some (.int 0)] [] := by
  refine gw_al1 K dL_law_982 ?_
  refine gw_al0 K dL_law_983 ?_
  refine gw_il3 K dL_law_984 ?_
  refine gw_iconst (v := 1) K dL_law_985 (by decide) ?_
  refine gw_iadd K dL_law_986 ?_
  refine gw_sld K S dL_law_987 (vp_in_nI (n := 1) (N := 5) (by decide) (by decide)) ?_
  refine gw_al0 K dL_law_988 ?_
  refine gw_il3 K dL_law_989 ?_
  refine gw_iconst (v := 2) K dL_law_990 (by decide) ?_
  refine gw_iadd K dL_law_991 ?_
  refine gw_sld K S dL_law_992 (vp_in_nI (n := 2) (N := 5) (by decide) (by decide)) ?_
  refine gw_callL_l K (uX6_odds z.1 (z.2.1, adX, z.2.2.1, z.2.2.2.1, z.2.2.2.2.1) z.2.2.2.2.2 _ _ _ fX) (i := 0) rfl (Nat.le_of_ble_eq_true rfl) fX6_odds lL_126 dL_law_993 rfl clsX6 rfl (Nat.le_of_ble_eq_true rfl) hkc hkn (fun h0 => ?_)
  refine gw_al2 K dL_law_996 ?_
  refine gw_al0 K dL_law_997 ?_
  refine gw_il3 K dL_law_998 ?_
  refine gw_iconst (v := 1) K dL_law_999 (by decide) ?_
  refine gw_iadd K dL_law_1000 ?_
  refine gw_sld K S dL_law_1001 (vp_in_nI (n := 1) (N := 5) (by decide) (by decide)) ?_
  refine gw_al0 K dL_law_1002 ?_
  refine gw_il3 K dL_law_1003 ?_
  refine gw_iconst (v := 2) K dL_law_1004 (by decide) ?_
  refine gw_iadd K dL_law_1005 ?_
  refine gw_sld K S dL_law_1006 (vp_in_nI (n := 2) (N := 5) (by decide) (by decide)) ?_
  refine gw_callR_l K (uX7_odds z.1 (z.2.1, adM, z.2.2.1, z.2.2.2.1, z.2.2.2.2.1) z.2.2.2.2.2 _ _ _ fM) (i := 0) rfl (Nat.le_of_ble_eq_true rfl) fX7_odds lL_130 dL_law_1007 rfl clsX7 rfl (Nat.le_of_ble_eq_true rfl) hkc hkn (fun h1 => ?_)
  refine gw_lcmp K dL_law_1010 ?_
  refine gw_if_eq (tgt := 1301) K dL_law_1011 (by decide) (fun _ => ?_) (fun q => absurd ((lg_cmp_eq _ _).mpr rfl) q)
  exact law_next hret K S hkc hkn _
set_option maxHeartbeats 8000000 in
set_option maxRecDepth 100000 in
theorem law_c27 {z : G6} {p : Program} {e : Env} {s : State} {m : MethodId} {below : List Frame} {meth : Method} {c : Code} {b : Nat} {xs : Nat → Int32} {adX adM : Nat → Nat} {kc kn : Nat} (hret : meth.sig.returnType = ret) (K : GOK (z, (13, 600000, 7302250), code, 4, RL) (p, e, s, m, #[Value.ref b], below, meth, c, fun q => s.heap.size ≤ q)) (S : SXP (p, e, s, m, #[Value.ref b], below, meth, c, fun q => s.heap.size ≤ q) b 5 xs) (hkc : kc ≤ 600000) (hkn : kn ≤ 7302250) : GW (z, (13, 600000, 7302250), code, 4, RL) (lw_Z below #[Value.ref b] s) (p, e, s, m, #[Value.ref b], below, meth, c, fun q => s.heap.size ≤ q) (aw_w (gw_wt z adX layX) hX0 ++ aw_w (gw_wt z adM layM) hM0) kc kn 1016 [some (.ref b), some (.ref (adX 0)), some (.ref (adM 0)), some (.int 0)] [] := by
  refine gw_al1 K dL_law_1016 ?_
  refine gw_al0 K dL_law_1017 ?_
  refine gw_il3 K dL_law_1018 ?_
  refine gw_iconst (v := 1) K dL_law_1019 (by decide) ?_
  refine gw_iadd K dL_law_1020 ?_
  refine gw_sld K S dL_law_1021 (vp_in_nI (n := 1) (N := 5) (by decide) (by decide)) ?_
  refine gw_callL_l K (uX6_oddest z.1 (z.2.1, adX, z.2.2.1, z.2.2.2.1, z.2.2.2.2.1) z.2.2.2.2.2 _ _ fX) (i := 0) rfl (Nat.le_of_ble_eq_true rfl) fX6_oddest lL_131 dL_law_1022 rfl clsX6 rfl (Nat.le_of_ble_eq_true rfl) hkc hkn (fun h0 => ?_)
  refine gw_al2 K dL_law_1025 ?_
  refine gw_al0 K dL_law_1026 ?_
  refine gw_il3 K dL_law_1027 ?_
  refine gw_iconst (v := 1) K dL_law_1028 (by decide) ?_
  refine gw_iadd K dL_law_1029 ?_
  refine gw_sld K S dL_law_1030 (vp_in_nI (n := 1) (N := 5) (by decide) (by decide)) ?_
  refine gw_callR_l K (uX7_oddest z.1 (z.2.1, adM, z.2.2.1, z.2.2.2.1, z.2.2.2.2.1) z.2.2.2.2.2 _ _ fM) (i := 0) rfl (Nat.le_of_ble_eq_true rfl) fX7_oddest lL_135 dL_law_1031 rfl clsX7 rfl (Nat.le_of_ble_eq_true rfl) hkc hkn (fun h1 => ?_)
  refine gw_lcmp K dL_law_1034 ?_
  refine gw_if_eq (tgt := 1301) K dL_law_1035 (by decide) (fun _ => ?_) (fun q => absurd ((lg_cmp_eq _ _).mpr rfl) q)
  exact law_next hret K S hkc hkn _
set_option maxHeartbeats 8000000 in
set_option maxRecDepth 100000 in
theorem law_c28 {z : G6} {p : Program} {e : Env} {s : State} {m : MethodId} {below : List Frame} {meth : Method} {c : Code} {b : Nat} {xs : Nat → Int32} {adX adM : Nat → Nat} {kc kn : Nat} (hret : meth.sig.returnType = ret) (K : GOK (z, (13, 600000, 7302250), code, 4, RL) (p, e, s, m, #[Value.ref b], below, meth, c, fun q => s.heap.size ≤ q)) (S : SXP (p, e, s, m, #[Value.ref b], below, meth, c, fun q => s.heap.size ≤ q) b 5 xs) (hkc : kc ≤ 600000) (hkn : kn ≤ 7302250) : GW (z, (13, 600000, 7302250), code, 4, RL) (lw_Z below #[Value.ref b] s) (p, e, s, m, #[Value.ref b], below, meth, c, fun q => s.heap.size ≤ q) (aw_w (gw_wt z adX layX) hX0 ++ aw_w (gw_wt z adM layM) hM0) kc kn 1040 [some (.ref b), some (.ref (adX 0)), some (.ref (adM 0)), some (.int 0)] [] := by
  refine gw_al1 K dL_law_1040 ?_
  refine gw_al0 K dL_law_1041 ?_
  refine gw_il3 K dL_law_1042 ?_
  refine gw_iconst (v := 1) K dL_law_1043 (by decide) ?_
  refine gw_iadd K dL_law_1044 ?_
  refine gw_sld K S dL_law_1045 (vp_in_nI (n := 1) (N := 5) (by decide) (by decide)) ?_
  refine gw_al0 K dL_law_1046 ?_
  refine gw_il3 K dL_law_1047 ?_
  refine gw_iconst (v := 2) K dL_law_1048 (by decide) ?_
  refine gw_iadd K dL_law_1049 ?_
  refine gw_sld K S dL_law_1050 (vp_in_nI (n := 2) (N := 5) (by decide) (by decide)) ?_
  refine gw_al0 K dL_law_1051 ?_
  refine gw_il3 K dL_law_1052 ?_
  refine gw_iconst (v := 3) K dL_law_1053 (by decide) ?_
  refine gw_iadd K dL_law_1054 ?_
  refine gw_sld K S dL_law_1055 (vp_in_nI (n := 3) (N := 5) (by decide) (by decide)) ?_
  refine gw_callL_r K (uX6_gain z.1 (z.2.1, adX, z.2.2.1, z.2.2.2.1, z.2.2.2.2.1) z.2.2.2.2.2 _ _ _ _ fX) (i := 0) rfl (Nat.le_of_ble_eq_true rfl) fX6_gain lL_136 dL_law_1056 rfl clsX6 rfl (Nat.le_of_ble_eq_true rfl) hkc hkn (fun h0 => ?_)
  refine gw_al2 K dL_law_1059 ?_
  refine gw_al0 K dL_law_1060 ?_
  refine gw_il3 K dL_law_1061 ?_
  refine gw_iconst (v := 1) K dL_law_1062 (by decide) ?_
  refine gw_iadd K dL_law_1063 ?_
  refine gw_sld K S dL_law_1064 (vp_in_nI (n := 1) (N := 5) (by decide) (by decide)) ?_
  refine gw_al0 K dL_law_1065 ?_
  refine gw_il3 K dL_law_1066 ?_
  refine gw_iconst (v := 2) K dL_law_1067 (by decide) ?_
  refine gw_iadd K dL_law_1068 ?_
  refine gw_sld K S dL_law_1069 (vp_in_nI (n := 2) (N := 5) (by decide) (by decide)) ?_
  refine gw_al0 K dL_law_1070 ?_
  refine gw_il3 K dL_law_1071 ?_
  refine gw_iconst (v := 3) K dL_law_1072 (by decide) ?_
  refine gw_iadd K dL_law_1073 ?_
  refine gw_sld K S dL_law_1074 (vp_in_nI (n := 3) (N := 5) (by decide) (by decide)) ?_
  refine gw_callR_r K (uX7_gain z.1 (z.2.1, adM, z.2.2.1, z.2.2.2.1, z.2.2.2.2.1) z.2.2.2.2.2 _ _ _ _ fM) (i := 0) rfl (Nat.le_of_ble_eq_true rfl) fX7_gain lL_139 dL_law_1075 rfl clsX7 rfl (Nat.le_of_ble_eq_true rfl) hkc hkn (fun h1 => ?_)
  refine gw_icmp_eq (tgt := 1301) K dL_law_1078 (by decide) (fun _ => ?_) (fun q => absurd rfl q)
  exact law_next hret K S hkc hkn _
set_option maxHeartbeats 8000000 in
set_option maxRecDepth 100000 in
theorem law_c29 {z : G6} {p : Program} {e : Env} {s : State} {m : MethodId} {below : List Frame} {meth : Method} {c : Code} {b : Nat} {xs : Nat → Int32} {adX adM : Nat → Nat} {kc kn : Nat} (hret : meth.sig.returnType = ret) (K : GOK (z, (13, 600000, 7302250), code, 4, RL) (p, e, s, m, #[Value.ref b], below, meth, c, fun q => s.heap.size ≤ q)) (S : SXP (p, e, s, m, #[Value.ref b], below, meth, c, fun q => s.heap.size ≤ q) b 5 xs) (hkc : kc ≤ 600000) (hkn : kn ≤ 7302250) : GW (z, (13, 600000, 7302250), code, 4, RL) (lw_Z below #[Value.ref b] s) (p, e, s, m, #[Value.ref b], below, meth, c, fun q => s.heap.size ≤ q) (aw_w (gw_wt z adX layX) hX0 ++ aw_w (gw_wt z adM layM) hM0) kc kn 1083 [some (.ref b), some (.ref (adX 0)), some (.ref (adM 0)), some (.int 0)] [] := by
  refine gw_al1 K dL_law_1083 ?_
  refine gw_al0 K dL_law_1084 ?_
  refine gw_il3 K dL_law_1085 ?_
  refine gw_iconst (v := 1) K dL_law_1086 (by decide) ?_
  refine gw_iadd K dL_law_1087 ?_
  refine gw_sld K S dL_law_1088 (vp_in_nI (n := 1) (N := 5) (by decide) (by decide)) ?_
  refine gw_al0 K dL_law_1089 ?_
  refine gw_il3 K dL_law_1090 ?_
  refine gw_iconst (v := 2) K dL_law_1091 (by decide) ?_
  refine gw_iadd K dL_law_1092 ?_
  refine gw_sld K S dL_law_1093 (vp_in_nI (n := 2) (N := 5) (by decide) (by decide)) ?_
  refine gw_al0 K dL_law_1094 ?_
  refine gw_il3 K dL_law_1095 ?_
  refine gw_iconst (v := 3) K dL_law_1096 (by decide) ?_
  refine gw_iadd K dL_law_1097 ?_
  refine gw_sld K S dL_law_1098 (vp_in_nI (n := 3) (N := 5) (by decide) (by decide)) ?_
  refine gw_callL_r K (uX6_best z.1 (z.2.1, adX, z.2.2.1, z.2.2.2.1, z.2.2.2.2.1) z.2.2.2.2.2 _ _ _ _ fX) (i := 0) rfl (Nat.le_of_ble_eq_true rfl) fX6_best lL_140 dL_law_1099 rfl clsX6 rfl (Nat.le_of_ble_eq_true rfl) hkc hkn (fun h0 => ?_)
  refine gw_al2 K dL_law_1102 ?_
  refine gw_al0 K dL_law_1103 ?_
  refine gw_il3 K dL_law_1104 ?_
  refine gw_iconst (v := 1) K dL_law_1105 (by decide) ?_
  refine gw_iadd K dL_law_1106 ?_
  refine gw_sld K S dL_law_1107 (vp_in_nI (n := 1) (N := 5) (by decide) (by decide)) ?_
  refine gw_al0 K dL_law_1108 ?_
  refine gw_il3 K dL_law_1109 ?_
  refine gw_iconst (v := 2) K dL_law_1110 (by decide) ?_
  refine gw_iadd K dL_law_1111 ?_
  refine gw_sld K S dL_law_1112 (vp_in_nI (n := 2) (N := 5) (by decide) (by decide)) ?_
  refine gw_al0 K dL_law_1113 ?_
  refine gw_il3 K dL_law_1114 ?_
  refine gw_iconst (v := 3) K dL_law_1115 (by decide) ?_
  refine gw_iadd K dL_law_1116 ?_
  refine gw_sld K S dL_law_1117 (vp_in_nI (n := 3) (N := 5) (by decide) (by decide)) ?_
  refine gw_callR_r K (uX7_best z.1 (z.2.1, adM, z.2.2.1, z.2.2.2.1, z.2.2.2.2.1) z.2.2.2.2.2 _ _ _ _ fM) (i := 0) rfl (Nat.le_of_ble_eq_true rfl) fX7_best lL_143 dL_law_1118 rfl clsX7 rfl (Nat.le_of_ble_eq_true rfl) hkc hkn (fun h1 => ?_)
  refine gw_icmp_eq (tgt := 1301) K dL_law_1121 (by decide) (fun _ => ?_) (fun q => absurd rfl q)
  exact law_next hret K S hkc hkn _
set_option maxHeartbeats 8000000 in
set_option maxRecDepth 100000 in
theorem law_c30 {z : G6} {p : Program} {e : Env} {s : State} {m : MethodId} {below : List Frame} {meth : Method} {c : Code} {b : Nat} {xs : Nat → Int32} {adX adM : Nat → Nat} {kc kn : Nat} (hret : meth.sig.returnType = ret) (K : GOK (z, (13, 600000, 7302250), code, 4, RL) (p, e, s, m, #[Value.ref b], below, meth, c, fun q => s.heap.size ≤ q)) (S : SXP (p, e, s, m, #[Value.ref b], below, meth, c, fun q => s.heap.size ≤ q) b 5 xs) (hkc : kc ≤ 600000) (hkn : kn ≤ 7302250) : GW (z, (13, 600000, 7302250), code, 4, RL) (lw_Z below #[Value.ref b] s) (p, e, s, m, #[Value.ref b], below, meth, c, fun q => s.heap.size ≤ q) (aw_w (gw_wt z adX layX) hX0 ++ aw_w (gw_wt z adM layM) hM0) kc kn 1126 [some (.ref b), some (.ref (adX 0)), some (.ref (adM 0)), some (.int 0)] [] := by
  refine gw_al1 K dL_law_1126 ?_
  refine gw_al0 K dL_law_1127 ?_
  refine gw_il3 K dL_law_1128 ?_
  refine gw_iconst (v := 1) K dL_law_1129 (by decide) ?_
  refine gw_iadd K dL_law_1130 ?_
  refine gw_sld K S dL_law_1131 (vp_in_nI (n := 1) (N := 5) (by decide) (by decide)) ?_
  refine gw_al0 K dL_law_1132 ?_
  refine gw_il3 K dL_law_1133 ?_
  refine gw_iconst (v := 2) K dL_law_1134 (by decide) ?_
  refine gw_iadd K dL_law_1135 ?_
  refine gw_sld K S dL_law_1136 (vp_in_nI (n := 2) (N := 5) (by decide) (by decide)) ?_
  refine gw_al0 K dL_law_1137 ?_
  refine gw_il3 K dL_law_1138 ?_
  refine gw_iconst (v := 3) K dL_law_1139 (by decide) ?_
  refine gw_iadd K dL_law_1140 ?_
  refine gw_sld K S dL_law_1141 (vp_in_nI (n := 3) (N := 5) (by decide) (by decide)) ?_
  refine gw_callL_r K (uX6_sheet z.1 (z.2.1, adX, z.2.2.1, z.2.2.2.1, z.2.2.2.2.1) z.2.2.2.2.2 _ _ _ _ fX) (i := 0) rfl (Nat.le_of_ble_eq_true rfl) fX6_sheet lL_144 dL_law_1142 rfl clsX6 rfl (Nat.le_of_ble_eq_true rfl) hkc hkn (fun h0 => ?_)
  refine gw_al2 K dL_law_1145 ?_
  refine gw_al0 K dL_law_1146 ?_
  refine gw_il3 K dL_law_1147 ?_
  refine gw_iconst (v := 1) K dL_law_1148 (by decide) ?_
  refine gw_iadd K dL_law_1149 ?_
  refine gw_sld K S dL_law_1150 (vp_in_nI (n := 1) (N := 5) (by decide) (by decide)) ?_
  refine gw_al0 K dL_law_1151 ?_
  refine gw_il3 K dL_law_1152 ?_
  refine gw_iconst (v := 2) K dL_law_1153 (by decide) ?_
  refine gw_iadd K dL_law_1154 ?_
  refine gw_sld K S dL_law_1155 (vp_in_nI (n := 2) (N := 5) (by decide) (by decide)) ?_
  refine gw_al0 K dL_law_1156 ?_
  refine gw_il3 K dL_law_1157 ?_
  refine gw_iconst (v := 3) K dL_law_1158 (by decide) ?_
  refine gw_iadd K dL_law_1159 ?_
  refine gw_sld K S dL_law_1160 (vp_in_nI (n := 3) (N := 5) (by decide) (by decide)) ?_
  refine gw_callR_r K (uX7_sheet z.1 (z.2.1, adM, z.2.2.1, z.2.2.2.1, z.2.2.2.2.1) z.2.2.2.2.2 _ _ _ _ fM) (i := 0) rfl (Nat.le_of_ble_eq_true rfl) fX7_sheet lL_147 dL_law_1161 rfl clsX7 rfl (Nat.le_of_ble_eq_true rfl) hkc hkn (fun h1 => ?_)
  refine gw_icmp_eq (tgt := 1301) K dL_law_1164 (by decide) (fun _ => ?_) (fun q => absurd rfl q)
  exact law_next hret K S hkc hkn _
set_option maxHeartbeats 8000000 in
set_option maxRecDepth 100000 in
theorem law_c31 {z : G6} {p : Program} {e : Env} {s : State} {m : MethodId} {below : List Frame} {meth : Method} {c : Code} {b : Nat} {xs : Nat → Int32} {adX adM : Nat → Nat} {kc kn : Nat} (hret : meth.sig.returnType = ret) (K : GOK (z, (13, 600000, 7302250), code, 4, RL) (p, e, s, m, #[Value.ref b], below, meth, c, fun q => s.heap.size ≤ q)) (S : SXP (p, e, s, m, #[Value.ref b], below, meth, c, fun q => s.heap.size ≤ q) b 5 xs) (hkc : kc ≤ 600000) (hkn : kn ≤ 7302250) : GW (z, (13, 600000, 7302250), code, 4, RL) (lw_Z below #[Value.ref b] s) (p, e, s, m, #[Value.ref b], below, meth, c, fun q => s.heap.size ≤ q) (aw_w (gw_wt z adX layX) hX0 ++ aw_w (gw_wt z adM layM) hM0) kc kn 1169 [some (.ref b), some (.ref (adX 0)), some (.ref (adM 0)), some (.int 0)] [] := by
  refine gw_al1 K dL_law_1169 ?_
  refine gw_al0 K dL_law_1170 ?_
  refine gw_il3 K dL_law_1171 ?_
  refine gw_iconst (v := 1) K dL_law_1172 (by decide) ?_
  refine gw_iadd K dL_law_1173 ?_
  refine gw_sld K S dL_law_1174 (vp_in_nI (n := 1) (N := 5) (by decide) (by decide)) ?_
  refine gw_al0 K dL_law_1175 ?_
  refine gw_il3 K dL_law_1176 ?_
  refine gw_iconst (v := 2) K dL_law_1177 (by decide) ?_
  refine gw_iadd K dL_law_1178 ?_
  refine gw_sld K S dL_law_1179 (vp_in_nI (n := 2) (N := 5) (by decide) (by decide)) ?_
  refine gw_al0 K dL_law_1180 ?_
  refine gw_il3 K dL_law_1181 ?_
  refine gw_iconst (v := 3) K dL_law_1182 (by decide) ?_
  refine gw_iadd K dL_law_1183 ?_
  refine gw_sld K S dL_law_1184 (vp_in_nI (n := 3) (N := 5) (by decide) (by decide)) ?_
  refine gw_callL_r K (uX6_lay z.1 (z.2.1, adX, z.2.2.1, z.2.2.2.1, z.2.2.2.2.1) z.2.2.2.2.2 _ _ _ _ fX) (i := 0) rfl (Nat.le_of_ble_eq_true rfl) fX6_lay lL_148 dL_law_1185 rfl clsX6 rfl (Nat.le_of_ble_eq_true rfl) hkc hkn (fun h0 => ?_)
  refine gw_al2 K dL_law_1188 ?_
  refine gw_al0 K dL_law_1189 ?_
  refine gw_il3 K dL_law_1190 ?_
  refine gw_iconst (v := 1) K dL_law_1191 (by decide) ?_
  refine gw_iadd K dL_law_1192 ?_
  refine gw_sld K S dL_law_1193 (vp_in_nI (n := 1) (N := 5) (by decide) (by decide)) ?_
  refine gw_al0 K dL_law_1194 ?_
  refine gw_il3 K dL_law_1195 ?_
  refine gw_iconst (v := 2) K dL_law_1196 (by decide) ?_
  refine gw_iadd K dL_law_1197 ?_
  refine gw_sld K S dL_law_1198 (vp_in_nI (n := 2) (N := 5) (by decide) (by decide)) ?_
  refine gw_al0 K dL_law_1199 ?_
  refine gw_il3 K dL_law_1200 ?_
  refine gw_iconst (v := 3) K dL_law_1201 (by decide) ?_
  refine gw_iadd K dL_law_1202 ?_
  refine gw_sld K S dL_law_1203 (vp_in_nI (n := 3) (N := 5) (by decide) (by decide)) ?_
  refine gw_callR_r K (uX7_lay z.1 (z.2.1, adM, z.2.2.1, z.2.2.2.1, z.2.2.2.2.1) z.2.2.2.2.2 _ _ _ _ fM) (i := 0) rfl (Nat.le_of_ble_eq_true rfl) fX7_lay lL_151 dL_law_1204 rfl clsX7 rfl (Nat.le_of_ble_eq_true rfl) hkc hkn (fun h1 => ?_)
  refine gw_icmp_eq (tgt := 1301) K dL_law_1207 (by decide) (fun _ => ?_) (fun q => absurd rfl q)
  exact law_next hret K S hkc hkn _
set_option maxHeartbeats 8000000 in
set_option maxRecDepth 100000 in
theorem law_c32 {z : G6} {p : Program} {e : Env} {s : State} {m : MethodId} {below : List Frame} {meth : Method} {c : Code} {b : Nat} {xs : Nat → Int32} {adX adM : Nat → Nat} {kc kn : Nat} (hret : meth.sig.returnType = ret) (K : GOK (z, (13, 600000, 7302250), code, 4, RL) (p, e, s, m, #[Value.ref b], below, meth, c, fun q => s.heap.size ≤ q)) (S : SXP (p, e, s, m, #[Value.ref b], below, meth, c, fun q => s.heap.size ≤ q) b 5 xs) (hkc : kc ≤ 600000) (hkn : kn ≤ 7302250) : GW (z, (13, 600000, 7302250), code, 4, RL) (lw_Z below #[Value.ref b] s) (p, e, s, m, #[Value.ref b], below, meth, c, fun q => s.heap.size ≤ q) (aw_w (gw_wt z adX layX) hX0 ++ aw_w (gw_wt z adM layM) hM0) kc kn 1212 [some (.ref b), some (.ref (adX 0)), some (.ref (adM 0)), some (.int 0)] [] := by
  refine gw_al1 K dL_law_1212 ?_
  refine gw_al0 K dL_law_1213 ?_
  refine gw_il3 K dL_law_1214 ?_
  refine gw_iconst (v := 1) K dL_law_1215 (by decide) ?_
  refine gw_iadd K dL_law_1216 ?_
  refine gw_sld K S dL_law_1217 (vp_in_nI (n := 1) (N := 5) (by decide) (by decide)) ?_
  refine gw_al0 K dL_law_1218 ?_
  refine gw_il3 K dL_law_1219 ?_
  refine gw_iconst (v := 2) K dL_law_1220 (by decide) ?_
  refine gw_iadd K dL_law_1221 ?_
  refine gw_sld K S dL_law_1222 (vp_in_nI (n := 2) (N := 5) (by decide) (by decide)) ?_
  refine gw_al0 K dL_law_1223 ?_
  refine gw_il3 K dL_law_1224 ?_
  refine gw_iconst (v := 3) K dL_law_1225 (by decide) ?_
  refine gw_iadd K dL_law_1226 ?_
  refine gw_sld K S dL_law_1227 (vp_in_nI (n := 3) (N := 5) (by decide) (by decide)) ?_
  refine gw_al0 K dL_law_1228 ?_
  refine gw_il3 K dL_law_1229 ?_
  refine gw_iconst (v := 4) K dL_law_1230 (by decide) ?_
  refine gw_iadd K dL_law_1231 ?_
  refine gw_sld K S dL_law_1232 (vp_in_nI (n := 4) (N := 5) (by decide) (by decide)) ?_
  refine gw_callL_r K (uX6_read z.1 (z.2.1, adX, z.2.2.1, z.2.2.2.1, z.2.2.2.2.1) z.2.2.2.2.2 _ _ _ _ _ fX) (i := 0) rfl (Nat.le_of_ble_eq_true rfl) fX6_read lL_152 dL_law_1233 rfl clsX6 rfl (Nat.le_of_ble_eq_true rfl) hkc hkn (fun h0 => ?_)
  refine gw_al2 K dL_law_1236 ?_
  refine gw_al0 K dL_law_1237 ?_
  refine gw_il3 K dL_law_1238 ?_
  refine gw_iconst (v := 1) K dL_law_1239 (by decide) ?_
  refine gw_iadd K dL_law_1240 ?_
  refine gw_sld K S dL_law_1241 (vp_in_nI (n := 1) (N := 5) (by decide) (by decide)) ?_
  refine gw_al0 K dL_law_1242 ?_
  refine gw_il3 K dL_law_1243 ?_
  refine gw_iconst (v := 2) K dL_law_1244 (by decide) ?_
  refine gw_iadd K dL_law_1245 ?_
  refine gw_sld K S dL_law_1246 (vp_in_nI (n := 2) (N := 5) (by decide) (by decide)) ?_
  refine gw_al0 K dL_law_1247 ?_
  refine gw_il3 K dL_law_1248 ?_
  refine gw_iconst (v := 3) K dL_law_1249 (by decide) ?_
  refine gw_iadd K dL_law_1250 ?_
  refine gw_sld K S dL_law_1251 (vp_in_nI (n := 3) (N := 5) (by decide) (by decide)) ?_
  refine gw_al0 K dL_law_1252 ?_
  refine gw_il3 K dL_law_1253 ?_
  refine gw_iconst (v := 4) K dL_law_1254 (by decide) ?_
  refine gw_iadd K dL_law_1255 ?_
  refine gw_sld K S dL_law_1256 (vp_in_nI (n := 4) (N := 5) (by decide) (by decide)) ?_
  refine gw_callR_r K (uX7_read z.1 (z.2.1, adM, z.2.2.1, z.2.2.2.1, z.2.2.2.2.1) z.2.2.2.2.2 _ _ _ _ _ fM) (i := 0) rfl (Nat.le_of_ble_eq_true rfl) fX7_read lL_155 dL_law_1257 rfl clsX7 rfl (Nat.le_of_ble_eq_true rfl) hkc hkn (fun h1 => ?_)
  refine gw_icmp_eq (tgt := 1301) K dL_law_1260 (by decide) (fun _ => ?_) (fun q => absurd rfl q)
  exact law_next hret K S hkc hkn _
set_option maxHeartbeats 8000000 in
set_option maxRecDepth 100000 in
theorem law_c33 {z : G6} {p : Program} {e : Env} {s : State} {m : MethodId} {below : List Frame} {meth : Method} {c : Code} {b : Nat} {xs : Nat → Int32} {adX adM : Nat → Nat} {kc kn : Nat} (hret : meth.sig.returnType = ret) (K : GOK (z, (13, 600000, 7302250), code, 4, RL) (p, e, s, m, #[Value.ref b], below, meth, c, fun q => s.heap.size ≤ q)) (S : SXP (p, e, s, m, #[Value.ref b], below, meth, c, fun q => s.heap.size ≤ q) b 5 xs) (hkc : kc ≤ 600000) (hkn : kn ≤ 7302250) : GW (z, (13, 600000, 7302250), code, 4, RL) (lw_Z below #[Value.ref b] s) (p, e, s, m, #[Value.ref b], below, meth, c, fun q => s.heap.size ≤ q) (aw_w (gw_wt z adX layX) hX0 ++ aw_w (gw_wt z adM layM) hM0) kc kn 1265 [some (.ref b), some (.ref (adX 0)), some (.ref (adM 0)), some (.int 0)] [] := by
  refine gw_al1 K dL_law_1265 ?_
  refine gw_callL_r K (uX6_lost z.1 (z.2.1, adX, z.2.2.1, z.2.2.2.1, z.2.2.2.2.1) z.2.2.2.2.2 _ fX) (i := 0) rfl (Nat.le_of_ble_eq_true rfl) fX6_lost lL_156 dL_law_1266 rfl clsX6 rfl (Nat.le_of_ble_eq_true rfl) hkc hkn (fun h0 => ?_)
  refine gw_al2 K dL_law_1269 ?_
  refine gw_callR_r K (uX7_lost z.1 (z.2.1, adM, z.2.2.1, z.2.2.2.1, z.2.2.2.2.1) z.2.2.2.2.2 _ fM) (i := 0) rfl (Nat.le_of_ble_eq_true rfl) fX7_lost lL_159 dL_law_1270 rfl clsX7 rfl (Nat.le_of_ble_eq_true rfl) hkc hkn (fun h1 => ?_)
  refine gw_icmp_eq (tgt := 1301) K dL_law_1273 (by decide) (fun _ => ?_) (fun q => absurd rfl q)
  exact law_next hret K S hkc hkn _
set_option maxHeartbeats 8000000 in
set_option maxRecDepth 100000 in
theorem law_c34 {z : G6} {p : Program} {e : Env} {s : State} {m : MethodId} {below : List Frame} {meth : Method} {c : Code} {b : Nat} {xs : Nat → Int32} {adX adM : Nat → Nat} {kc kn : Nat} (hret : meth.sig.returnType = ret) (K : GOK (z, (13, 600000, 7302250), code, 4, RL) (p, e, s, m, #[Value.ref b], below, meth, c, fun q => s.heap.size ≤ q)) (S : SXP (p, e, s, m, #[Value.ref b], below, meth, c, fun q => s.heap.size ≤ q) b 5 xs) (hkc : kc ≤ 600000) (hkn : kn ≤ 7302250) : GW (z, (13, 600000, 7302250), code, 4, RL) (lw_Z below #[Value.ref b] s) (p, e, s, m, #[Value.ref b], below, meth, c, fun q => s.heap.size ≤ q) (aw_w (gw_wt z adX layX) hX0 ++ aw_w (gw_wt z adM layM) hM0) kc kn 1278 [some (.ref b), some (.ref (adX 0)), some (.ref (adM 0)), some (.int 0)] [] := by
  refine gw_al1 K dL_law_1278 ?_
  refine gw_al0 K dL_law_1279 ?_
  refine gw_il3 K dL_law_1280 ?_
  refine gw_iconst (v := 1) K dL_law_1281 (by decide) ?_
  refine gw_iadd K dL_law_1282 ?_
  refine gw_sld K S dL_law_1283 (vp_in_nI (n := 1) (N := 5) (by decide) (by decide)) ?_
  refine gw_callL_r K (uX6_count z.1 (z.2.1, adX, z.2.2.1, z.2.2.2.1, z.2.2.2.2.1) z.2.2.2.2.2 _ _ fX) (i := 0) rfl (Nat.le_of_ble_eq_true rfl) fX6_count lL_160 dL_law_1284 rfl clsX6 rfl (Nat.le_of_ble_eq_true rfl) hkc hkn (fun h0 => ?_)
  refine gw_al2 K dL_law_1287 ?_
  refine gw_al0 K dL_law_1288 ?_
  refine gw_il3 K dL_law_1289 ?_
  refine gw_iconst (v := 1) K dL_law_1290 (by decide) ?_
  refine gw_iadd K dL_law_1291 ?_
  refine gw_sld K S dL_law_1292 (vp_in_nI (n := 1) (N := 5) (by decide) (by decide)) ?_
  refine gw_callR_r K (uX7_count z.1 (z.2.1, adM, z.2.2.1, z.2.2.2.1, z.2.2.2.2.1) z.2.2.2.2.2 _ _ fM) (i := 0) rfl (Nat.le_of_ble_eq_true rfl) fX7_count lL_163 dL_law_1293 rfl clsX7 rfl (Nat.le_of_ble_eq_true rfl) hkc hkn (fun h1 => ?_)
  refine gw_icmp_eq (tgt := 1301) K dL_law_1296 (by decide) (fun _ => ?_) (fun q => absurd rfl q)
  exact law_next hret K S hkc hkn _
set_option maxHeartbeats 8000000 in
set_option maxRecDepth 100000 in
theorem law_walk {z : G6} {p : Program} {e : Env} {s : State} {m : MethodId} {below : List Frame} {meth : Method} {c : Code} {b Ls : Nat} {xs : Nat → Int32} (hret : meth.sig.returnType = ret) (K : GOK (z, (13, 600000, 7302250), code, 4, RL) (p, e, s, m, #[Value.ref b], below, meth, c, fun q => s.heap.size ≤ q)) (S : SXP (p, e, s, m, #[Value.ref b], below, meth, c, fun q => s.heap.size ≤ q) b Ls xs) (hL : Ls ≤ 5) :
    GW (z, (13, 600000, 7302250), code, 4, RL) (lw_Z below #[Value.ref b] s) (p, e, s, m, #[Value.ref b], below, meth, c, fun q => s.heap.size ≤ q) [] 0 0 0 [some (.ref b), none, none, none] [] := by
  refine gw_new K (ci := 6) (fs := [.null, .null, .null, .null, .null, .null, .null, .null, .null, .null, .null, .int 0, .int 0]) rfl wnX6 tyX6_ok clL_7 inX6_ fiX6.2.1 (by decide) (Nat.le_of_ble_eq_true rfl) (Nat.le_of_ble_eq_true rfl) dL_law_0 (fun q0 => ?_)
  refine gw_dup K dL_law_3 rfl ?_
  refine gw_ctor K (nX6 _ q0) (Nat.le_of_ble_eq_true rfl) fiX6 (Or.inl lL_9) dL_law_4 (Nat.le_of_ble_eq_true rfl) (Nat.le_of_ble_eq_true rfl) (Nat.le_of_ble_eq_true rfl) (fun w1 hw1 => ?_)
  obtain ⟨adX, rfl, rfl⟩ := hw1
  refine gw_eq (List.nil_append _) ?_
  refine gw_as1 K dL_law_7 (Nat.le_of_ble_eq_true rfl) rfl ?_
  refine gw_new K (ci := 7) (fs := [.int 0, .null, .null, .null, .null, .null, .int 0, .null, .null, .null, .null, .null, .int 0, .null, .null, .null, .null, .int 0, .int 0, .int 0, .int 0, .int 0, .int 0, .int 0, .null, .null, .null, .int 0, .null, .null, .null, .null, .null, .int 0, .null, .null, .int 0, .int 0, .long 0, .long 0, .null, .null, .null, .int 0]) rfl wnX7 tyX7_ok clL_10 inX7_ fiX7.2.1 (by decide) (Nat.le_of_ble_eq_true rfl) (Nat.le_of_ble_eq_true rfl) dL_law_8 (fun q1 => ?_)
  refine gw_dup K dL_law_11 rfl ?_
  refine gw_ctor K (nX7 _ q1) (Nat.le_of_ble_eq_true rfl) fiX7 (Or.inl lL_12) dL_law_12 (Nat.le_of_ble_eq_true rfl) (Nat.le_of_ble_eq_true rfl) (Nat.le_of_ble_eq_true rfl) (fun w1 hw1 => ?_)
  obtain ⟨adM, rfl, rfl⟩ := hw1
  refine gw_as2 K dL_law_15 (Nat.le_of_ble_eq_true rfl) rfl ?_
  refine gw_iconst (v := 0) K dL_law_16 (by decide) ?_
  refine gw_is3 K dL_law_17 (Nat.le_of_ble_eq_true rfl) rfl ?_
  refine gw_il3 K dL_law_18 ?_
  refine gw_al0 K dL_law_19 ?_
  refine gw_slen K S dL_law_20 ?_
  refine gw_iconst (v := 5) K dL_law_21 (by decide) ?_
  refine gw_isub K dL_law_22 ?_
  refine gw_icmp_gt (tgt := 1307) K dL_law_23 (by decide) (fun _ => ?_) (fun b23 => ?_)
  · refine gw_iconst (v := 1) K dL_law_1307 (by decide) ?_
    exact gw_lret hret K dL_law_1308 (Nat.le_of_ble_eq_true rfl) (Nat.le_of_ble_eq_true rfl)
  · obtain rfl : Ls = 5 := by
      rcases Nat.lt_or_ge Ls 5 with q | q
      · exact absurd (pk_sneg (a := Ls) (b := 5) (by decide) q) b23
      · omega
    refine gw_al0 K dL_law_26 ?_
    refine gw_il3 K dL_law_27 ?_
    refine gw_sld K S dL_law_28 (vp_in_nI (n := 0) (N := 5) (by decide) (by decide)) ?_
    refine gw_bipush (v := 63) K dL_law_29 (by decide) ?_
    refine gw_iand K dL_law_31 ?_
    exact gw_tsw (tgt := 1301) K dL_law_32 (by decide) (by decide) (by decide) ⟨fun _ => law_c0 hret K S (Nat.le_of_ble_eq_true rfl) (Nat.le_of_ble_eq_true rfl), fun _ => law_c1 hret K S (Nat.le_of_ble_eq_true rfl) (Nat.le_of_ble_eq_true rfl), fun _ => law_c2 hret K S (Nat.le_of_ble_eq_true rfl) (Nat.le_of_ble_eq_true rfl), fun _ => law_c3 hret K S (Nat.le_of_ble_eq_true rfl) (Nat.le_of_ble_eq_true rfl), fun _ => law_c4 hret K S (Nat.le_of_ble_eq_true rfl) (Nat.le_of_ble_eq_true rfl), fun _ => law_c5 hret K S (Nat.le_of_ble_eq_true rfl) (Nat.le_of_ble_eq_true rfl), fun _ => law_c6 hret K S (Nat.le_of_ble_eq_true rfl) (Nat.le_of_ble_eq_true rfl), fun _ => law_c7 hret K S (Nat.le_of_ble_eq_true rfl) (Nat.le_of_ble_eq_true rfl), fun _ => law_c8 hret K S (Nat.le_of_ble_eq_true rfl) (Nat.le_of_ble_eq_true rfl), fun _ => law_c9 hret K S (Nat.le_of_ble_eq_true rfl) (Nat.le_of_ble_eq_true rfl), fun _ => law_c10 hret K S (Nat.le_of_ble_eq_true rfl) (Nat.le_of_ble_eq_true rfl), fun _ => law_c11 hret K S (Nat.le_of_ble_eq_true rfl) (Nat.le_of_ble_eq_true rfl), fun _ => law_c12 hret K S (Nat.le_of_ble_eq_true rfl) (Nat.le_of_ble_eq_true rfl), fun _ => law_c13 hret K S (Nat.le_of_ble_eq_true rfl) (Nat.le_of_ble_eq_true rfl), fun _ => law_c14 hret K S (Nat.le_of_ble_eq_true rfl) (Nat.le_of_ble_eq_true rfl), fun _ => law_c15 hret K S (Nat.le_of_ble_eq_true rfl) (Nat.le_of_ble_eq_true rfl), fun _ => law_c16 hret K S (Nat.le_of_ble_eq_true rfl) (Nat.le_of_ble_eq_true rfl), fun _ => law_c17 hret K S (Nat.le_of_ble_eq_true rfl) (Nat.le_of_ble_eq_true rfl), fun _ => law_c18 hret K S (Nat.le_of_ble_eq_true rfl) (Nat.le_of_ble_eq_true rfl), fun _ => law_c19 hret K S (Nat.le_of_ble_eq_true rfl) (Nat.le_of_ble_eq_true rfl), fun _ => law_c20 hret K S (Nat.le_of_ble_eq_true rfl) (Nat.le_of_ble_eq_true rfl), fun _ => law_c21 hret K S (Nat.le_of_ble_eq_true rfl) (Nat.le_of_ble_eq_true rfl), fun _ => law_c22 hret K S (Nat.le_of_ble_eq_true rfl) (Nat.le_of_ble_eq_true rfl), fun _ => law_c23 hret K S (Nat.le_of_ble_eq_true rfl) (Nat.le_of_ble_eq_true rfl), fun _ => law_c24 hret K S (Nat.le_of_ble_eq_true rfl) (Nat.le_of_ble_eq_true rfl), fun _ => law_c25 hret K S (Nat.le_of_ble_eq_true rfl) (Nat.le_of_ble_eq_true rfl), fun _ => law_c26 hret K S (Nat.le_of_ble_eq_true rfl) (Nat.le_of_ble_eq_true rfl), fun _ => law_c27 hret K S (Nat.le_of_ble_eq_true rfl) (Nat.le_of_ble_eq_true rfl), fun _ => law_c28 hret K S (Nat.le_of_ble_eq_true rfl) (Nat.le_of_ble_eq_true rfl), fun _ => law_c29 hret K S (Nat.le_of_ble_eq_true rfl) (Nat.le_of_ble_eq_true rfl), fun _ => law_c30 hret K S (Nat.le_of_ble_eq_true rfl) (Nat.le_of_ble_eq_true rfl), fun _ => law_c31 hret K S (Nat.le_of_ble_eq_true rfl) (Nat.le_of_ble_eq_true rfl), fun _ => law_c32 hret K S (Nat.le_of_ble_eq_true rfl) (Nat.le_of_ble_eq_true rfl), fun _ => law_c33 hret K S (Nat.le_of_ble_eq_true rfl) (Nat.le_of_ble_eq_true rfl), fun _ => law_c34 hret K S (Nat.le_of_ble_eq_true rfl) (Nat.le_of_ble_eq_true rfl), trivial⟩ (fun _ => law_next hret K S (Nat.le_of_ble_eq_true rfl) (Nat.le_of_ble_eq_true rfl) _)
set_option maxHeartbeats 4000000 in
theorem whole_start {p : Program} {e : Env} {s : State} {m : MethodId} {below : List Frame} {meth : Method} {c : Code} (l : Launch) {b L : Nat} {xs : Nat → Int32} (hL : L ≤ 5) (C0 : lw_At p s m meth c b L xs) : W p l e room_1 s m #[Value.ref b] below meth c s.heap [] 0 0 (lw_Z below #[Value.ref b] s) (entryFrame m ([Value.ref b] : List Value).toArray 4) := by
  obtain ⟨hx, hb, hr, hml, hown, hts, hX, hbl, hlocks, hgv⟩ := C0
  obtain ⟨D, cI, cZ, cO, hK⟩ := law_K hts
  obtain ⟨sta, hZ⟩ := law_Z (A := fun q => s.heap.size ≤ q) hgv hts (fun a h => Nat.not_le.mpr h)
  have K : GOK ((l, D, cI, cZ, cO, sta), (13, 600000, 7302250), code, 4, RL) (p, e, s, m, #[Value.ref b], below, meth, c, fun q => s.heap.size ≤ q) := ⟨hx, hb, hml, hown, fun w hw => hts w (List.mem_filter.mp hw).1, hlocks, hK, fun _ h => h, aw_N.of hts aoS, hZ⟩
  have hl := lv_entry ([.ref b]) (n := 4) (Nat.le_of_ble_eq_true rfl)
  rw [lg_entry_eq]
  refine law_walk (z := (l, D, cI, cZ, cO, sta)) hr K ⟨hX, hbl, Nat.not_le.mpr hbl⟩ hL s.heap [] _ ⟨hl.1, hl.2.1, fun i v hi => ?_⟩ (fun k q h => by simp at h) ⟨fun i j p q h => by simp at h, fun k q h => by simp at h⟩ va_S.rf
  match i, hi with
  | 0, hi => cases hi; exact hl.2.2 (0, .ref b) (by simp [lv_args])
  | 1, hi => simp at hi
  | 2, hi => simp at hi
  | 3, hi => simp at hi
  | i + 4, hi => simp at hi

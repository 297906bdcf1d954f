theorem gw_lret {z : G6} {p : Program} {e : Env} {s : State} {m : MethodId} {below : List Frame} {meth : Method} {c : Code} {b : Nat} {ws : va_W} {kc kn pc : Nat} {L : List (Option Value)} (hret : meth.sig.returnType = ret) (K : GOK (z, (13, 600000, 7302250), code, 4, RL) (p, e, s, m, #[Value.ref b], below, meth, c, fun q => s.heap.size ≤ q)) (hd : decode code pc = .ok (.ireturn, 1)) (hkc : kc ≤ 600000) (hkn : kn ≤ 7302250) :
    GW (z, (13, 600000, 7302250), code, 4, RL) (lw_Z below #[Value.ref b] s) (p, e, s, m, #[Value.ref b], below, meth, c, fun q => s.heap.size ≤ q) ws kc kn pc L [.int 1] :=
  fun H lo la a1 a2 a3 a4 => va_forget (fun q hq => a4.2.2 q hq) (W.widen hkc hkn (lw_ret K.1 K.2.1 hret K.2.2.2.2.2.1 hd))
theorem ixs {i k Ls : Nat} (h : i + k < Ls) (hL : Ls ≤ 2560) : vp_in (nI i + nI k) Ls := by
  rw [nI_add]
  exact vp_in_nI h (by omega)
theorem lw_gt {i Ls : Nat} (hi : i ≤ 2560) (hL : Ls ≤ 2560) : nI Ls - 5 < nI i ↔ Ls < i + 5 := by
  rw [Int32.lt_iff_toInt_lt, show (5 : Int32) = nI 5 from rfl, pk_sub_toInt (by omega) (by omega), nI_toInt (by omega)]
  omega
/-- the start -/
theorem inv_0 : INV hX0 hM0 := by
  refine ⟨⟨0, 0, 0, ⟨rfl, by decide⟩, ⟨rfl, by decide⟩, ⟨rfl, by decide⟩, fun _ => vp_in_nI (n := 0) (by decide) (by decide), fun _ => vp_in_nI (n := 0) (by decide) (by decide), fun _ => vp_in_nI (n := 0) (by decide) (by decide), fun _ => vp_in_nI (n := 0) (by decide) (by decide), fun _ => vp_in_nI (n := 0) (by decide) (by decide), fun _ => vp_in_nI (n := 0) (by decide) (by decide)⟩, ⟨fun p hp => ?_, fun p hp => ?_⟩, fun k hk => ?_, ⟨0, by decide, rfl⟩, fun j => ?_⟩
  · by_cases q : p = (11, 11)
    · subst q
      funext j
      have e1 : hX0.1 11 j = va_cpy (aw_sf 0) (fun _ => 0) (Int32.toNatClampNeg 0) (Int32.toNatClampNeg 0) (Int32.toNatClampNeg 10) j := rfl
      show hM0.1 11 j = hX0.1 11 j
      rw [e1]
      by_cases hj : j < 10
      · rw [cpy10 hj]
        show prf _ _ 10 j = _
        simp only [prf, if_pos hj]
        show prf _ _ 10 j = _
        simp only [prf, if_pos hj]
        rfl
      · rw [cpy10o hj]
        show prf _ _ 10 j = _
        simp only [prf, if_neg hj]
        rfl
    · have u : ∀ p ∈ rp, p ≠ (11, 11) → (p.1 ≠ 11 ∧ p.1 ≠ 7 ∧ p.1 ≠ 8 ∧ p.1 ≠ 9 ∧ p.1 ≠ 10) ∧ (p.2 ≠ 11 ∧ p.2 ≠ 12 ∧ p.2 ≠ 13 ∧ p.2 ≠ 25) := by decide
      obtain ⟨⟨u1, u2, u3, u4, u5⟩, v1, v2, v3, v4⟩ := u p hp q
      have e1 : hX0.1 p.1 = fun _ => 0 := by
        unfold hX0
        simp only [if_neg u1, if_neg u2, if_neg u3, if_neg u4, if_neg u5]
      have e2 : hM0.1 p.2 = fun _ => 0 := by
        unfold hM0 KR FR
        rw [rdR, if_neg v1, rdR, if_neg v2, rdR, if_neg v3]
        unfold hM1
        simp only [if_neg v4]
      rw [e1, e2]
  · have u : ∀ p ∈ sp, hM0.1 0 p.2 = hX0.1 p.1.1 p.1.2 := by
      intro p hp
      simp only [sp, List.mem_cons, List.not_mem_nil, or_false] at hp
      rcases hp with rfl | rfl | rfl | rfl | rfl | rfl | rfl <;> rfl
    exact u p hp
  · match k, hk with
    | 0, _ => exact ⟨rfl, fun q => absurd rfl q, fun _ _ => rfl, by show ¬ (0 : Int32) = -4; decide, Or.inl rfl⟩
    | 1, _ => exact ⟨rfl, fun q => absurd rfl q, fun _ _ => rfl, by show ¬ (0 : Int32) = -4; decide, Or.inl rfl⟩
    | 2, _ => exact ⟨rfl, fun q => absurd rfl q, fun _ _ => rfl, by show ¬ (0 : Int32) = -4; decide, Or.inl rfl⟩
    | 3, _ => exact ⟨rfl, fun q => absurd rfl q, fun _ _ => rfl, by show ¬ (0 : Int32) = -4; decide, Or.inl rfl⟩
  · show ¬ (0 : Int32) < 0
    decide
set_option maxHeartbeats 8000000 in
set_option maxRecDepth 100000 in
theorem law_c0 {z : G6} {p : Program} {e : Env} {s : State} {m : MethodId} {below : List Frame} {meth : Method} {c : Code} {b Ls : Nat} {xs : Nat → Int32} {adX adM : Nat → Nat} {kc kn : Nat} (K : GOK (z, (13, 600000, 7302250), code, 4, RL) (p, e, s, m, #[Value.ref b], below, meth, c, fun q => s.heap.size ≤ q)) (S : SXP (p, e, s, m, #[Value.ref b], below, meth, c, fun q => s.heap.size ≤ q) b Ls xs) (hkc : kc ≤ 600000) (hkn : kn ≤ 7302250) (hL : Ls ≤ 2560) (i : Nat) (hi : i + 4 < Ls) {hx hm : HS} (v0 : INW hx hm) (hk : ∀ hx hm : HS, INW hx hm → GW (z, (13, 600000, 7302250), code, 4, RL) (lw_Z below #[Value.ref b] s) (p, e, s, m, #[Value.ref b], below, meth, c, fun q => s.heap.size ≤ q) (aw_w (gw_wt z adX layX) hx ++ aw_w (gw_wt z adM layM) hm) kc kn 1300 [some (.ref b), some (.ref (adX 0)), some (.ref (adM 0)), some (.int (nI i))] []) : GW (z, (13, 600000, 7302250), code, 4, RL) (lw_Z below #[Value.ref b] s) (p, e, s, m, #[Value.ref b], below, meth, c, fun q => s.heap.size ≤ q) (aw_w (gw_wt z adX layX) hx ++ aw_w (gw_wt z adM layM) hm) kc kn 188 [some (.ref b), some (.ref (adX 0)), some (.ref (adM 0)), some (.int (nI i))] [] := by
  have v : INV hx hm := v0.1
  obtain ⟨⟨N, T, Wn, H⟩, r, sh, ⟨Lt, l1, l2⟩, bb⟩ := id v
  obtain ⟨wt, ww⟩ := v0.2.at H
  have M := r.mw H
  have Z := sh.mz
  have hz : ∀ j, j < 4 → SZ hx (7 + j) := fun j hj => (sh j hj).2.2.2.2
  refine gw_al1 K dL_law_188 ?_
  refine gw_al0 K dL_law_189 ?_
  refine gw_il3 K dL_law_190 ?_
  refine gw_iconst (v := 1) K dL_law_191 (by decide) ?_
  refine gw_iadd K dL_law_192 ?_
  refine gw_sld K S dL_law_193 (ixs (k := 1) (by omega) hL) ?_
  refine gw_callL K (tX6_name z.1 (z.2.1, adX, z.2.2.1, z.2.2.2.1, z.2.2.2.2.1) z.2.2.2.2.2 hx _ H) (i := 0) rfl (Nat.le_of_ble_eq_true rfl) fX6_name lL_13 dL_law_194 rfl clsX6 rfl (Nat.le_of_ble_eq_true rfl) hkc hkn (fun o1 hn1 q1 => ?_)
  obtain ⟨rfl, rfl⟩ := q1
  refine (show GW _ _ _ _ _ _ _ _ (.int _ :: _) from ?_)
  refine gw_pop K dL_law_197 rfl ?_
  refine gw_al2 K dL_law_198 ?_
  refine gw_al0 K dL_law_199 ?_
  refine gw_il3 K dL_law_200 ?_
  refine gw_iconst (v := 1) K dL_law_201 (by decide) ?_
  refine gw_iadd K dL_law_202 ?_
  refine gw_sld K S dL_law_203 (ixs (k := 1) (by omega) hL) ?_
  refine gw_callR K (tX7_name z.1 (z.2.1, adM, z.2.2.1, z.2.2.2.1, z.2.2.2.2.1) z.2.2.2.2.2 hm _ M) (i := 0) rfl (Nat.le_of_ble_eq_true rfl) fX7_name lL_17 dL_law_204 rfl clsX7 rfl (Nat.le_of_ble_eq_true rfl) hkc hkn (fun o2 hn2 q2 => ?_)
  obtain ⟨rfl, q2⟩ := q2
  subst q2
  refine (show GW _ _ _ _ _ _ _ _ (.int _ :: _) from ?_)
  refine gw_pop K dL_law_207 rfl ?_
  refine gw_goto (tgt := 1300) K dL_law_208 (by decide) ?_
  exact hk _ _ ⟨(jn_name v _).2, (wr_name v0.2 _)⟩
set_option maxHeartbeats 8000000 in
set_option maxRecDepth 100000 in
theorem law_c1 {z : G6} {p : Program} {e : Env} {s : State} {m : MethodId} {below : List Frame} {meth : Method} {c : Code} {b Ls : Nat} {xs : Nat → Int32} {adX adM : Nat → Nat} {kc kn : Nat} (K : GOK (z, (13, 600000, 7302250), code, 4, RL) (p, e, s, m, #[Value.ref b], below, meth, c, fun q => s.heap.size ≤ q)) (S : SXP (p, e, s, m, #[Value.ref b], below, meth, c, fun q => s.heap.size ≤ q) b Ls xs) (hkc : kc ≤ 600000) (hkn : kn ≤ 7302250) (hL : Ls ≤ 2560) (i : Nat) (hi : i + 4 < Ls) {hx hm : HS} (v0 : INW hx hm) (hk : ∀ hx hm : HS, INW hx hm → GW (z, (13, 600000, 7302250), code, 4, RL) (lw_Z below #[Value.ref b] s) (p, e, s, m, #[Value.ref b], below, meth, c, fun q => s.heap.size ≤ q) (aw_w (gw_wt z adX layX) hx ++ aw_w (gw_wt z adM layM) hm) kc kn 1300 [some (.ref b), some (.ref (adX 0)), some (.ref (adM 0)), some (.int (nI i))] []) : GW (z, (13, 600000, 7302250), code, 4, RL) (lw_Z below #[Value.ref b] s) (p, e, s, m, #[Value.ref b], below, meth, c, fun q => s.heap.size ≤ q) (aw_w (gw_wt z adX layX) hx ++ aw_w (gw_wt z adM layM) hm) kc kn 211 [some (.ref b), some (.ref (adX 0)), some (.ref (adM 0)), some (.int (nI i))] [] := by
  have v : INV hx hm := v0.1
  obtain ⟨⟨N, T, Wn, H⟩, r, sh, ⟨Lt, l1, l2⟩, bb⟩ := id v
  obtain ⟨wt, ww⟩ := v0.2.at H
  have M := r.mw H
  have Z := sh.mz
  have hz : ∀ j, j < 4 → SZ hx (7 + j) := fun j hj => (sh j hj).2.2.2.2
  refine gw_al1 K dL_law_211 ?_
  refine gw_al0 K dL_law_212 ?_
  refine gw_il3 K dL_law_213 ?_
  refine gw_iconst (v := 1) K dL_law_214 (by decide) ?_
  refine gw_iadd K dL_law_215 ?_
  refine gw_sld K S dL_law_216 (ixs (k := 1) (by omega) hL) ?_
  refine gw_al0 K dL_law_217 ?_
  refine gw_il3 K dL_law_218 ?_
  refine gw_iconst (v := 2) K dL_law_219 (by decide) ?_
  refine gw_iadd K dL_law_220 ?_
  refine gw_sld K S dL_law_221 (ixs (k := 2) (by omega) hL) ?_
  refine gw_if_eq (tgt := 229) K dL_law_222 (by decide) (fun bq => ?_) (fun bq => ?_)
  · refine gw_iconst (v := 0) K dL_law_229 (by decide) ?_
    refine gw_callL K (tX6_seed z.1 (z.2.1, adX, z.2.2.1, z.2.2.2.1, z.2.2.2.2.1) z.2.2.2.2.2 hx _ _ H) (i := 0) rfl (Nat.le_of_ble_eq_true rfl) fX6_seed lL_18 dL_law_230 rfl clsX6 rfl (Nat.le_of_ble_eq_true rfl) hkc hkn (fun o1 hn1 q1 => ?_)
    obtain ⟨rfl, rfl⟩ := q1
    refine (show GW _ _ _ _ _ _ _ _ (.int _ :: _) from ?_)
    refine gw_pop K dL_law_233 rfl ?_
    refine gw_al2 K dL_law_234 ?_
    refine gw_al0 K dL_law_235 ?_
    refine gw_il3 K dL_law_236 ?_
    refine gw_iconst (v := 1) K dL_law_237 (by decide) ?_
    refine gw_iadd K dL_law_238 ?_
    refine gw_sld K S dL_law_239 (ixs (k := 1) (by omega) hL) ?_
    refine gw_al0 K dL_law_240 ?_
    refine gw_il3 K dL_law_241 ?_
    refine gw_iconst (v := 2) K dL_law_242 (by decide) ?_
    refine gw_iadd K dL_law_243 ?_
    refine gw_sld K S dL_law_244 (ixs (k := 2) (by omega) hL) ?_
    refine gw_if_eq (tgt := 252) K dL_law_245 (by decide) (fun b2 => ?_) (fun b2 => absurd bq b2)
    refine gw_iconst (v := 0) K dL_law_252 (by decide) ?_
    refine gw_callR K (tX7_seed z.1 (z.2.1, adM, z.2.2.1, z.2.2.2.1, z.2.2.2.2.1) z.2.2.2.2.2 hm _ _ M) (i := 0) rfl (Nat.le_of_ble_eq_true rfl) fX7_seed lL_22 dL_law_253 rfl clsX7 rfl (Nat.le_of_ble_eq_true rfl) hkc hkn (fun o2 hn2 q2 => ?_)
    obtain ⟨rfl, q2⟩ := q2
    subst q2
    refine (show GW _ _ _ _ _ _ _ _ (.int _ :: _) from ?_)
    refine gw_pop K dL_law_256 rfl ?_
    refine gw_goto (tgt := 1300) K dL_law_257 (by decide) ?_
    exact hk _ _ ⟨(jn_seed v _ _).2, (wr_seed v0.2 _ _)⟩
  · refine gw_iconst (v := 1) K dL_law_225 (by decide) ?_
    refine gw_goto (tgt := 230) K dL_law_226 (by decide) ?_
    refine gw_callL K (tX6_seed z.1 (z.2.1, adX, z.2.2.1, z.2.2.2.1, z.2.2.2.2.1) z.2.2.2.2.2 hx _ _ H) (i := 0) rfl (Nat.le_of_ble_eq_true rfl) fX6_seed lL_18 dL_law_230 rfl clsX6 rfl (Nat.le_of_ble_eq_true rfl) hkc hkn (fun o1 hn1 q1 => ?_)
    obtain ⟨rfl, rfl⟩ := q1
    refine (show GW _ _ _ _ _ _ _ _ (.int _ :: _) from ?_)
    refine gw_pop K dL_law_233 rfl ?_
    refine gw_al2 K dL_law_234 ?_
    refine gw_al0 K dL_law_235 ?_
    refine gw_il3 K dL_law_236 ?_
    refine gw_iconst (v := 1) K dL_law_237 (by decide) ?_
    refine gw_iadd K dL_law_238 ?_
    refine gw_sld K S dL_law_239 (ixs (k := 1) (by omega) hL) ?_
    refine gw_al0 K dL_law_240 ?_
    refine gw_il3 K dL_law_241 ?_
    refine gw_iconst (v := 2) K dL_law_242 (by decide) ?_
    refine gw_iadd K dL_law_243 ?_
    refine gw_sld K S dL_law_244 (ixs (k := 2) (by omega) hL) ?_
    refine gw_if_eq (tgt := 252) K dL_law_245 (by decide) (fun b2 => absurd b2 bq) (fun b2 => ?_)
    refine gw_iconst (v := 1) K dL_law_248 (by decide) ?_
    refine gw_goto (tgt := 253) K dL_law_249 (by decide) ?_
    refine gw_callR K (tX7_seed z.1 (z.2.1, adM, z.2.2.1, z.2.2.2.1, z.2.2.2.2.1) z.2.2.2.2.2 hm _ _ M) (i := 0) rfl (Nat.le_of_ble_eq_true rfl) fX7_seed lL_22 dL_law_253 rfl clsX7 rfl (Nat.le_of_ble_eq_true rfl) hkc hkn (fun o2 hn2 q2 => ?_)
    obtain ⟨rfl, q2⟩ := q2
    subst q2
    refine (show GW _ _ _ _ _ _ _ _ (.int _ :: _) from ?_)
    refine gw_pop K dL_law_256 rfl ?_
    refine gw_goto (tgt := 1300) K dL_law_257 (by decide) ?_
    exact hk _ _ ⟨(jn_seed v _ _).2, (wr_seed v0.2 _ _)⟩
set_option maxHeartbeats 8000000 in
set_option maxRecDepth 100000 in
theorem law_c2 {z : G6} {p : Program} {e : Env} {s : State} {m : MethodId} {below : List Frame} {meth : Method} {c : Code} {b Ls : Nat} {xs : Nat → Int32} {adX adM : Nat → Nat} {kc kn : Nat} (K : GOK (z, (13, 600000, 7302250), code, 4, RL) (p, e, s, m, #[Value.ref b], below, meth, c, fun q => s.heap.size ≤ q)) (S : SXP (p, e, s, m, #[Value.ref b], below, meth, c, fun q => s.heap.size ≤ q) b Ls xs) (hkc : kc ≤ 600000) (hkn : kn ≤ 7302250) (hL : Ls ≤ 2560) (i : Nat) (hi : i + 4 < Ls) {hx hm : HS} (v0 : INW hx hm) (hk : ∀ hx hm : HS, INW hx hm → GW (z, (13, 600000, 7302250), code, 4, RL) (lw_Z below #[Value.ref b] s) (p, e, s, m, #[Value.ref b], below, meth, c, fun q => s.heap.size ≤ q) (aw_w (gw_wt z adX layX) hx ++ aw_w (gw_wt z adM layM) hm) kc kn 1300 [some (.ref b), some (.ref (adX 0)), some (.ref (adM 0)), some (.int (nI i))] []) : GW (z, (13, 600000, 7302250), code, 4, RL) (lw_Z below #[Value.ref b] s) (p, e, s, m, #[Value.ref b], below, meth, c, fun q => s.heap.size ≤ q) (aw_w (gw_wt z adX layX) hx ++ aw_w (gw_wt z adM layM) hm) kc kn 260 [some (.ref b), some (.ref (adX 0)), some (.ref (adM 0)), some (.int (nI i))] [] := by
  have v : INV hx hm := v0.1
  obtain ⟨⟨N, T, Wn, H⟩, r, sh, ⟨Lt, l1, l2⟩, bb⟩ := id v
  obtain ⟨wt, ww⟩ := v0.2.at H
  have M := r.mw H
  have Z := sh.mz
  have hz : ∀ j, j < 4 → SZ hx (7 + j) := fun j hj => (sh j hj).2.2.2.2
  refine gw_al1 K dL_law_260 ?_
  refine gw_al0 K dL_law_261 ?_
  refine gw_il3 K dL_law_262 ?_
  refine gw_iconst (v := 1) K dL_law_263 (by decide) ?_
  refine gw_iadd K dL_law_264 ?_
  refine gw_sld K S dL_law_265 (ixs (k := 1) (by omega) hL) ?_
  refine gw_al0 K dL_law_266 ?_
  refine gw_il3 K dL_law_267 ?_
  refine gw_iconst (v := 2) K dL_law_268 (by decide) ?_
  refine gw_iadd K dL_law_269 ?_
  refine gw_sld K S dL_law_270 (ixs (k := 2) (by omega) hL) ?_
  refine gw_callL K (tX6_pledge z.1 (z.2.1, adX, z.2.2.1, z.2.2.2.1, z.2.2.2.2.1) z.2.2.2.2.2 hx _ _ H) (i := 0) rfl (Nat.le_of_ble_eq_true rfl) fX6_pledge lL_23 dL_law_271 rfl clsX6 rfl (Nat.le_of_ble_eq_true rfl) hkc hkn (fun o1 hn1 q1 => ?_)
  obtain ⟨rfl, rfl⟩ := q1
  refine (show GW _ _ _ _ _ _ _ _ (.int _ :: _) from ?_)
  refine gw_pop K dL_law_274 rfl ?_
  refine gw_al2 K dL_law_275 ?_
  refine gw_al0 K dL_law_276 ?_
  refine gw_il3 K dL_law_277 ?_
  refine gw_iconst (v := 1) K dL_law_278 (by decide) ?_
  refine gw_iadd K dL_law_279 ?_
  refine gw_sld K S dL_law_280 (ixs (k := 1) (by omega) hL) ?_
  refine gw_al0 K dL_law_281 ?_
  refine gw_il3 K dL_law_282 ?_
  refine gw_iconst (v := 2) K dL_law_283 (by decide) ?_
  refine gw_iadd K dL_law_284 ?_
  refine gw_sld K S dL_law_285 (ixs (k := 2) (by omega) hL) ?_
  refine gw_callR K (tX7_pledge z.1 (z.2.1, adM, z.2.2.1, z.2.2.2.1, z.2.2.2.2.1) z.2.2.2.2.2 hm _ _ M) (i := 0) rfl (Nat.le_of_ble_eq_true rfl) fX7_pledge lL_27 dL_law_286 rfl clsX7 rfl (Nat.le_of_ble_eq_true rfl) hkc hkn (fun o2 hn2 q2 => ?_)
  obtain ⟨rfl, q2⟩ := q2
  subst q2
  refine (show GW _ _ _ _ _ _ _ _ (.int _ :: _) from ?_)
  refine gw_pop K dL_law_289 rfl ?_
  refine gw_goto (tgt := 1300) K dL_law_290 (by decide) ?_
  exact hk _ _ ⟨(jn_pledge v _ _).2, (wr_pledge v0.2 _ _)⟩
set_option maxHeartbeats 8000000 in
set_option maxRecDepth 100000 in
theorem law_c3 {z : G6} {p : Program} {e : Env} {s : State} {m : MethodId} {below : List Frame} {meth : Method} {c : Code} {b Ls : Nat} {xs : Nat → Int32} {adX adM : Nat → Nat} {kc kn : Nat} (K : GOK (z, (13, 600000, 7302250), code, 4, RL) (p, e, s, m, #[Value.ref b], below, meth, c, fun q => s.heap.size ≤ q)) (S : SXP (p, e, s, m, #[Value.ref b], below, meth, c, fun q => s.heap.size ≤ q) b Ls xs) (hkc : kc ≤ 600000) (hkn : kn ≤ 7302250) (hL : Ls ≤ 2560) (i : Nat) (hi : i + 4 < Ls) {hx hm : HS} (v0 : INW hx hm) (hk : ∀ hx hm : HS, INW hx hm → GW (z, (13, 600000, 7302250), code, 4, RL) (lw_Z below #[Value.ref b] s) (p, e, s, m, #[Value.ref b], below, meth, c, fun q => s.heap.size ≤ q) (aw_w (gw_wt z adX layX) hx ++ aw_w (gw_wt z adM layM) hm) kc kn 1300 [some (.ref b), some (.ref (adX 0)), some (.ref (adM 0)), some (.int (nI i))] []) : GW (z, (13, 600000, 7302250), code, 4, RL) (lw_Z below #[Value.ref b] s) (p, e, s, m, #[Value.ref b], below, meth, c, fun q => s.heap.size ≤ q) (aw_w (gw_wt z adX layX) hx ++ aw_w (gw_wt z adM layM) hm) kc kn 293 [some (.ref b), some (.ref (adX 0)), some (.ref (adM 0)), some (.int (nI i))] [] := by
  have v : INV hx hm := v0.1
  obtain ⟨⟨N, T, Wn, H⟩, r, sh, ⟨Lt, l1, l2⟩, bb⟩ := id v
  obtain ⟨wt, ww⟩ := v0.2.at H
  have M := r.mw H
  have Z := sh.mz
  have hz : ∀ j, j < 4 → SZ hx (7 + j) := fun j hj => (sh j hj).2.2.2.2
  refine gw_al1 K dL_law_293 ?_
  refine gw_al0 K dL_law_294 ?_
  refine gw_il3 K dL_law_295 ?_
  refine gw_iconst (v := 1) K dL_law_296 (by decide) ?_
  refine gw_iadd K dL_law_297 ?_
  refine gw_sld K S dL_law_298 (ixs (k := 1) (by omega) hL) ?_
  refine gw_al0 K dL_law_299 ?_
  refine gw_il3 K dL_law_300 ?_
  refine gw_iconst (v := 2) K dL_law_301 (by decide) ?_
  refine gw_iadd K dL_law_302 ?_
  refine gw_sld K S dL_law_303 (ixs (k := 2) (by omega) hL) ?_
  refine gw_al0 K dL_law_304 ?_
  refine gw_il3 K dL_law_305 ?_
  refine gw_iconst (v := 3) K dL_law_306 (by decide) ?_
  refine gw_iadd K dL_law_307 ?_
  refine gw_sld K S dL_law_308 (ixs (k := 3) (by omega) hL) ?_
  refine gw_al0 K dL_law_309 ?_
  refine gw_il3 K dL_law_310 ?_
  refine gw_iconst (v := 4) K dL_law_311 (by decide) ?_
  refine gw_iadd K dL_law_312 ?_
  refine gw_sld K S dL_law_313 (ixs (k := 4) (by omega) hL) ?_
  refine gw_callL K (tX6_tie z.1 (z.2.1, adX, z.2.2.1, z.2.2.2.1, z.2.2.2.2.1) z.2.2.2.2.2 hx _ _ _ _ H) (i := 0) rfl (Nat.le_of_ble_eq_true rfl) fX6_tie lL_28 dL_law_314 rfl clsX6 rfl (Nat.le_of_ble_eq_true rfl) hkc hkn (fun o1 hn1 q1 => ?_)
  obtain ⟨rfl, rfl⟩ := q1
  refine (show GW _ _ _ _ _ _ _ _ (.int _ :: _) from ?_)
  refine gw_pop K dL_law_317 rfl ?_
  refine gw_al2 K dL_law_318 ?_
  refine gw_al0 K dL_law_319 ?_
  refine gw_il3 K dL_law_320 ?_
  refine gw_iconst (v := 1) K dL_law_321 (by decide) ?_
  refine gw_iadd K dL_law_322 ?_
  refine gw_sld K S dL_law_323 (ixs (k := 1) (by omega) hL) ?_
  refine gw_al0 K dL_law_324 ?_
  refine gw_il3 K dL_law_325 ?_
  refine gw_iconst (v := 2) K dL_law_326 (by decide) ?_
  refine gw_iadd K dL_law_327 ?_
  refine gw_sld K S dL_law_328 (ixs (k := 2) (by omega) hL) ?_
  refine gw_al0 K dL_law_329 ?_
  refine gw_il3 K dL_law_330 ?_
  refine gw_iconst (v := 3) K dL_law_331 (by decide) ?_
  refine gw_iadd K dL_law_332 ?_
  refine gw_sld K S dL_law_333 (ixs (k := 3) (by omega) hL) ?_
  refine gw_al0 K dL_law_334 ?_
  refine gw_il3 K dL_law_335 ?_
  refine gw_iconst (v := 4) K dL_law_336 (by decide) ?_
  refine gw_iadd K dL_law_337 ?_
  refine gw_sld K S dL_law_338 (ixs (k := 4) (by omega) hL) ?_
  refine gw_callR K (tX7_tie z.1 (z.2.1, adM, z.2.2.1, z.2.2.2.1, z.2.2.2.2.1) z.2.2.2.2.2 hm _ _ _ _ M) (i := 0) rfl (Nat.le_of_ble_eq_true rfl) fX7_tie lL_32 dL_law_339 rfl clsX7 rfl (Nat.le_of_ble_eq_true rfl) hkc hkn (fun o2 hn2 q2 => ?_)
  obtain ⟨rfl, q2⟩ := q2
  subst q2
  refine (show GW _ _ _ _ _ _ _ _ (.int _ :: _) from ?_)
  refine gw_pop K dL_law_342 rfl ?_
  refine gw_goto (tgt := 1300) K dL_law_343 (by decide) ?_
  exact hk _ _ ⟨(jn_tie v _ _ _ _).2, (wr_tie v0.2 _ _ _ _)⟩
set_option maxHeartbeats 8000000 in
set_option maxRecDepth 100000 in
theorem law_c4 {z : G6} {p : Program} {e : Env} {s : State} {m : MethodId} {below : List Frame} {meth : Method} {c : Code} {b Ls : Nat} {xs : Nat → Int32} {adX adM : Nat → Nat} {kc kn : Nat} (K : GOK (z, (13, 600000, 7302250), code, 4, RL) (p, e, s, m, #[Value.ref b], below, meth, c, fun q => s.heap.size ≤ q)) (S : SXP (p, e, s, m, #[Value.ref b], below, meth, c, fun q => s.heap.size ≤ q) b Ls xs) (hkc : kc ≤ 600000) (hkn : kn ≤ 7302250) (hL : Ls ≤ 2560) (i : Nat) (hi : i + 4 < Ls) {hx hm : HS} (v0 : INW hx hm) (hk : ∀ hx hm : HS, INW hx hm → GW (z, (13, 600000, 7302250), code, 4, RL) (lw_Z below #[Value.ref b] s) (p, e, s, m, #[Value.ref b], below, meth, c, fun q => s.heap.size ≤ q) (aw_w (gw_wt z adX layX) hx ++ aw_w (gw_wt z adM layM) hm) kc kn 1300 [some (.ref b), some (.ref (adX 0)), some (.ref (adM 0)), some (.int (nI i))] []) : GW (z, (13, 600000, 7302250), code, 4, RL) (lw_Z below #[Value.ref b] s) (p, e, s, m, #[Value.ref b], below, meth, c, fun q => s.heap.size ≤ q) (aw_w (gw_wt z adX layX) hx ++ aw_w (gw_wt z adM layM) hm) kc kn 346 [some (.ref b), some (.ref (adX 0)), some (.ref (adM 0)), some (.int (nI i))] [] := by
  have v : INV hx hm := v0.1
  obtain ⟨⟨N, T, Wn, H⟩, r, sh, ⟨Lt, l1, l2⟩, bb⟩ := id v
  obtain ⟨wt, ww⟩ := v0.2.at H
  have M := r.mw H
  have Z := sh.mz
  have hz : ∀ j, j < 4 → SZ hx (7 + j) := fun j hj => (sh j hj).2.2.2.2
  refine gw_al1 K dL_law_346 ?_
  refine gw_al0 K dL_law_347 ?_
  refine gw_il3 K dL_law_348 ?_
  refine gw_iconst (v := 1) K dL_law_349 (by decide) ?_
  refine gw_iadd K dL_law_350 ?_
  refine gw_sld K S dL_law_351 (ixs (k := 1) (by omega) hL) ?_
  refine gw_al0 K dL_law_352 ?_
  refine gw_il3 K dL_law_353 ?_
  refine gw_iconst (v := 2) K dL_law_354 (by decide) ?_
  refine gw_iadd K dL_law_355 ?_
  refine gw_sld K S dL_law_356 (ixs (k := 2) (by omega) hL) ?_
  refine gw_callL K (tX6_tieOf z.1 (z.2.1, adX, z.2.2.1, z.2.2.2.1, z.2.2.2.2.1) z.2.2.2.2.2 hx _ _ H) (i := 0) rfl (Nat.le_of_ble_eq_true rfl) fX6_tieOf lL_33 dL_law_357 rfl clsX6 rfl (Nat.le_of_ble_eq_true rfl) hkc hkn (fun o1 hn1 q1 => ?_)
  obtain ⟨⟨r1, rfl⟩, q1⟩ := q1
  refine (show GW _ _ _ _ _ _ _ _ (.int _ :: _) from ?_)
  refine gw_pop K dL_law_360 rfl ?_
  refine gw_al2 K dL_law_361 ?_
  refine gw_al0 K dL_law_362 ?_
  refine gw_il3 K dL_law_363 ?_
  refine gw_iconst (v := 1) K dL_law_364 (by decide) ?_
  refine gw_iadd K dL_law_365 ?_
  refine gw_sld K S dL_law_366 (ixs (k := 1) (by omega) hL) ?_
  refine gw_al0 K dL_law_367 ?_
  refine gw_il3 K dL_law_368 ?_
  refine gw_iconst (v := 2) K dL_law_369 (by decide) ?_
  refine gw_iadd K dL_law_370 ?_
  refine gw_sld K S dL_law_371 (ixs (k := 2) (by omega) hL) ?_
  refine gw_callR K (tX7_tieOf z.1 (z.2.1, adM, z.2.2.1, z.2.2.2.1, z.2.2.2.2.1) z.2.2.2.2.2 hm _ _ M) (i := 0) rfl (Nat.le_of_ble_eq_true rfl) fX7_tieOf lL_36 dL_law_372 rfl clsX7 rfl (Nat.le_of_ble_eq_true rfl) hkc hkn (fun o2 hn2 q2 => ?_)
  obtain ⟨rfl, q2⟩ := q2
  subst q2
  refine (show GW _ _ _ _ _ _ _ _ (.int _ :: _) from ?_)
  refine gw_pop K dL_law_375 rfl ?_
  refine gw_goto (tgt := 1300) K dL_law_376 (by decide) ?_
  exact hk _ _ ⟨(v.q q1), (v0.2.q q1)⟩
set_option maxHeartbeats 8000000 in
set_option maxRecDepth 100000 in
theorem law_c5 {z : G6} {p : Program} {e : Env} {s : State} {m : MethodId} {below : List Frame} {meth : Method} {c : Code} {b Ls : Nat} {xs : Nat → Int32} {adX adM : Nat → Nat} {kc kn : Nat} (K : GOK (z, (13, 600000, 7302250), code, 4, RL) (p, e, s, m, #[Value.ref b], below, meth, c, fun q => s.heap.size ≤ q)) (S : SXP (p, e, s, m, #[Value.ref b], below, meth, c, fun q => s.heap.size ≤ q) b Ls xs) (hkc : kc ≤ 600000) (hkn : kn ≤ 7302250) (hL : Ls ≤ 2560) (i : Nat) (hi : i + 4 < Ls) {hx hm : HS} (v0 : INW hx hm) (hk : ∀ hx hm : HS, INW hx hm → GW (z, (13, 600000, 7302250), code, 4, RL) (lw_Z below #[Value.ref b] s) (p, e, s, m, #[Value.ref b], below, meth, c, fun q => s.heap.size ≤ q) (aw_w (gw_wt z adX layX) hx ++ aw_w (gw_wt z adM layM) hm) kc kn 1300 [some (.ref b), some (.ref (adX 0)), some (.ref (adM 0)), some (.int (nI i))] []) : GW (z, (13, 600000, 7302250), code, 4, RL) (lw_Z below #[Value.ref b] s) (p, e, s, m, #[Value.ref b], below, meth, c, fun q => s.heap.size ≤ q) (aw_w (gw_wt z adX layX) hx ++ aw_w (gw_wt z adM layM) hm) kc kn 379 [some (.ref b), some (.ref (adX 0)), some (.ref (adM 0)), some (.int (nI i))] [] := by
  have v : INV hx hm := v0.1
  obtain ⟨⟨N, T, Wn, H⟩, r, sh, ⟨Lt, l1, l2⟩, bb⟩ := id v
  obtain ⟨wt, ww⟩ := v0.2.at H
  have M := r.mw H
  have Z := sh.mz
  have hz : ∀ j, j < 4 → SZ hx (7 + j) := fun j hj => (sh j hj).2.2.2.2
  refine gw_al1 K dL_law_379 ?_
  refine gw_al0 K dL_law_380 ?_
  refine gw_il3 K dL_law_381 ?_
  refine gw_iconst (v := 1) K dL_law_382 (by decide) ?_
  refine gw_iadd K dL_law_383 ?_
  refine gw_sld K S dL_law_384 (ixs (k := 1) (by omega) hL) ?_
  refine gw_callL K (tX6_renew z.1 (z.2.1, adX, z.2.2.1, z.2.2.2.1, z.2.2.2.2.1) z.2.2.2.2.2 hx _ H) (i := 0) rfl (Nat.le_of_ble_eq_true rfl) fX6_renew lL_37 dL_law_385 rfl clsX6 rfl (Nat.le_of_ble_eq_true rfl) hkc hkn (fun o1 hn1 q1 => ?_)
  obtain ⟨rfl, rfl⟩ := q1
  refine (show GW _ _ _ _ _ _ _ _ (.int _ :: _) from ?_)
  refine gw_pop K dL_law_388 rfl ?_
  refine gw_al2 K dL_law_389 ?_
  refine gw_al0 K dL_law_390 ?_
  refine gw_il3 K dL_law_391 ?_
  refine gw_iconst (v := 1) K dL_law_392 (by decide) ?_
  refine gw_iadd K dL_law_393 ?_
  refine gw_sld K S dL_law_394 (ixs (k := 1) (by omega) hL) ?_
  refine gw_callR K (tX7_renew z.1 (z.2.1, adM, z.2.2.1, z.2.2.2.1, z.2.2.2.2.1) z.2.2.2.2.2 hm _ M) (i := 0) rfl (Nat.le_of_ble_eq_true rfl) fX7_renew lL_40 dL_law_395 rfl clsX7 rfl (Nat.le_of_ble_eq_true rfl) hkc hkn (fun o2 hn2 q2 => ?_)
  obtain ⟨rfl, q2⟩ := q2
  subst q2
  refine (show GW _ _ _ _ _ _ _ _ (.int _ :: _) from ?_)
  refine gw_pop K dL_law_398 rfl ?_
  refine gw_goto (tgt := 1300) K dL_law_399 (by decide) ?_
  exact hk _ _ ⟨(jn_renew v _).2, (wr_renew v0.2 _)⟩
set_option maxHeartbeats 8000000 in
set_option maxRecDepth 100000 in
theorem law_c6 {z : G6} {p : Program} {e : Env} {s : State} {m : MethodId} {below : List Frame} {meth : Method} {c : Code} {b Ls : Nat} {xs : Nat → Int32} {adX adM : Nat → Nat} {kc kn : Nat} (K : GOK (z, (13, 600000, 7302250), code, 4, RL) (p, e, s, m, #[Value.ref b], below, meth, c, fun q => s.heap.size ≤ q)) (S : SXP (p, e, s, m, #[Value.ref b], below, meth, c, fun q => s.heap.size ≤ q) b Ls xs) (hkc : kc ≤ 600000) (hkn : kn ≤ 7302250) (hL : Ls ≤ 2560) (i : Nat) (hi : i + 4 < Ls) {hx hm : HS} (v0 : INW hx hm) (hk : ∀ hx hm : HS, INW hx hm → GW (z, (13, 600000, 7302250), code, 4, RL) (lw_Z below #[Value.ref b] s) (p, e, s, m, #[Value.ref b], below, meth, c, fun q => s.heap.size ≤ q) (aw_w (gw_wt z adX layX) hx ++ aw_w (gw_wt z adM layM) hm) kc kn 1300 [some (.ref b), some (.ref (adX 0)), some (.ref (adM 0)), some (.int (nI i))] []) : GW (z, (13, 600000, 7302250), code, 4, RL) (lw_Z below #[Value.ref b] s) (p, e, s, m, #[Value.ref b], below, meth, c, fun q => s.heap.size ≤ q) (aw_w (gw_wt z adX layX) hx ++ aw_w (gw_wt z adM layM) hm) kc kn 402 [some (.ref b), some (.ref (adX 0)), some (.ref (adM 0)), some (.int (nI i))] [] := by
  have v : INV hx hm := v0.1
  obtain ⟨⟨N, T, Wn, H⟩, r, sh, ⟨Lt, l1, l2⟩, bb⟩ := id v
  obtain ⟨wt, ww⟩ := v0.2.at H
  have M := r.mw H
  have Z := sh.mz
  have hz : ∀ j, j < 4 → SZ hx (7 + j) := fun j hj => (sh j hj).2.2.2.2
  refine gw_al1 K dL_law_402 ?_
  refine gw_al0 K dL_law_403 ?_
  refine gw_il3 K dL_law_404 ?_
  refine gw_iconst (v := 1) K dL_law_405 (by decide) ?_
  refine gw_iadd K dL_law_406 ?_
  refine gw_sld K S dL_law_407 (ixs (k := 1) (by omega) hL) ?_
  refine gw_al0 K dL_law_408 ?_
  refine gw_il3 K dL_law_409 ?_
  refine gw_iconst (v := 2) K dL_law_410 (by decide) ?_
  refine gw_iadd K dL_law_411 ?_
  refine gw_sld K S dL_law_412 (ixs (k := 2) (by omega) hL) ?_
  refine gw_callL K (tX6_of z.1 (z.2.1, adX, z.2.2.1, z.2.2.2.1, z.2.2.2.2.1) z.2.2.2.2.2 hx _ _ H) (i := 0) rfl (Nat.le_of_ble_eq_true rfl) fX6_of lL_41 dL_law_413 rfl clsX6 rfl (Nat.le_of_ble_eq_true rfl) hkc hkn (fun o1 hn1 q1 => ?_)
  obtain ⟨⟨r1, rfl⟩, q1⟩ := q1
  refine (show GW _ _ _ _ _ _ _ _ (.int _ :: _) from ?_)
  refine gw_pop K dL_law_416 rfl ?_
  refine gw_al2 K dL_law_417 ?_
  refine gw_al0 K dL_law_418 ?_
  refine gw_il3 K dL_law_419 ?_
  refine gw_iconst (v := 1) K dL_law_420 (by decide) ?_
  refine gw_iadd K dL_law_421 ?_
  refine gw_sld K S dL_law_422 (ixs (k := 1) (by omega) hL) ?_
  refine gw_al0 K dL_law_423 ?_
  refine gw_il3 K dL_law_424 ?_
  refine gw_iconst (v := 2) K dL_law_425 (by decide) ?_
  refine gw_iadd K dL_law_426 ?_
  refine gw_sld K S dL_law_427 (ixs (k := 2) (by omega) hL) ?_
  refine gw_callR K (tX7_of z.1 (z.2.1, adM, z.2.2.1, z.2.2.2.1, z.2.2.2.2.1) z.2.2.2.2.2 hm _ _ M) (i := 0) rfl (Nat.le_of_ble_eq_true rfl) fX7_of lL_44 dL_law_428 rfl clsX7 rfl (Nat.le_of_ble_eq_true rfl) hkc hkn (fun o2 hn2 q2 => ?_)
  obtain ⟨rfl, q2⟩ := q2
  subst q2
  refine (show GW _ _ _ _ _ _ _ _ (.int _ :: _) from ?_)
  refine gw_pop K dL_law_431 rfl ?_
  refine gw_goto (tgt := 1300) K dL_law_432 (by decide) ?_
  exact hk _ _ ⟨(v.q q1), (v0.2.q q1)⟩
set_option maxHeartbeats 8000000 in
set_option maxRecDepth 100000 in
theorem law_c7 {z : G6} {p : Program} {e : Env} {s : State} {m : MethodId} {below : List Frame} {meth : Method} {c : Code} {b Ls : Nat} {xs : Nat → Int32} {adX adM : Nat → Nat} {kc kn : Nat} (K : GOK (z, (13, 600000, 7302250), code, 4, RL) (p, e, s, m, #[Value.ref b], below, meth, c, fun q => s.heap.size ≤ q)) (S : SXP (p, e, s, m, #[Value.ref b], below, meth, c, fun q => s.heap.size ≤ q) b Ls xs) (hkc : kc ≤ 600000) (hkn : kn ≤ 7302250) (hL : Ls ≤ 2560) (i : Nat) (hi : i + 4 < Ls) {hx hm : HS} (v0 : INW hx hm) (hk : ∀ hx hm : HS, INW hx hm → GW (z, (13, 600000, 7302250), code, 4, RL) (lw_Z below #[Value.ref b] s) (p, e, s, m, #[Value.ref b], below, meth, c, fun q => s.heap.size ≤ q) (aw_w (gw_wt z adX layX) hx ++ aw_w (gw_wt z adM layM) hm) kc kn 1300 [some (.ref b), some (.ref (adX 0)), some (.ref (adM 0)), some (.int (nI i))] []) : GW (z, (13, 600000, 7302250), code, 4, RL) (lw_Z below #[Value.ref b] s) (p, e, s, m, #[Value.ref b], below, meth, c, fun q => s.heap.size ≤ q) (aw_w (gw_wt z adX layX) hx ++ aw_w (gw_wt z adM layM) hm) kc kn 435 [some (.ref b), some (.ref (adX 0)), some (.ref (adM 0)), some (.int (nI i))] [] := by
  have v : INV hx hm := v0.1
  obtain ⟨⟨N, T, Wn, H⟩, r, sh, ⟨Lt, l1, l2⟩, bb⟩ := id v
  obtain ⟨wt, ww⟩ := v0.2.at H
  have M := r.mw H
  have Z := sh.mz
  have hz : ∀ j, j < 4 → SZ hx (7 + j) := fun j hj => (sh j hj).2.2.2.2
  refine gw_al1 K dL_law_435 ?_
  refine gw_al0 K dL_law_436 ?_
  refine gw_il3 K dL_law_437 ?_
  refine gw_iconst (v := 1) K dL_law_438 (by decide) ?_
  refine gw_iadd K dL_law_439 ?_
  refine gw_sld K S dL_law_440 (ixs (k := 1) (by omega) hL) ?_
  refine gw_callL K (tX6_made z.1 (z.2.1, adX, z.2.2.1, z.2.2.2.1, z.2.2.2.2.1) z.2.2.2.2.2 hx _ H) (i := 0) rfl (Nat.le_of_ble_eq_true rfl) fX6_made lL_45 dL_law_441 rfl clsX6 rfl (Nat.le_of_ble_eq_true rfl) hkc hkn (fun o1 hn1 q1 => ?_)
  obtain ⟨rfl, rfl⟩ := q1
  refine (show GW _ _ _ _ _ _ _ _ (.int _ :: _) from ?_)
  refine gw_pop K dL_law_444 rfl ?_
  refine gw_al2 K dL_law_445 ?_
  refine gw_al0 K dL_law_446 ?_
  refine gw_il3 K dL_law_447 ?_
  refine gw_iconst (v := 1) K dL_law_448 (by decide) ?_
  refine gw_iadd K dL_law_449 ?_
  refine gw_sld K S dL_law_450 (ixs (k := 1) (by omega) hL) ?_
  refine gw_callR K (tX7_made z.1 (z.2.1, adM, z.2.2.1, z.2.2.2.1, z.2.2.2.2.1) z.2.2.2.2.2 hm _ M) (i := 0) rfl (Nat.le_of_ble_eq_true rfl) fX7_made lL_48 dL_law_451 rfl clsX7 rfl (Nat.le_of_ble_eq_true rfl) hkc hkn (fun o2 hn2 q2 => ?_)
  obtain ⟨rfl, q2⟩ := q2
  subst q2
  refine (show GW _ _ _ _ _ _ _ _ (.int _ :: _) from ?_)
  refine gw_pop K dL_law_454 rfl ?_
  refine gw_goto (tgt := 1300) K dL_law_455 (by decide) ?_
  exact hk _ _ ⟨(jn_made v _ H).2, (wr_made v0.2 _ N T)⟩
set_option maxHeartbeats 8000000 in
set_option maxRecDepth 100000 in
theorem law_c8 {z : G6} {p : Program} {e : Env} {s : State} {m : MethodId} {below : List Frame} {meth : Method} {c : Code} {b Ls : Nat} {xs : Nat → Int32} {adX adM : Nat → Nat} {kc kn : Nat} (K : GOK (z, (13, 600000, 7302250), code, 4, RL) (p, e, s, m, #[Value.ref b], below, meth, c, fun q => s.heap.size ≤ q)) (S : SXP (p, e, s, m, #[Value.ref b], below, meth, c, fun q => s.heap.size ≤ q) b Ls xs) (hkc : kc ≤ 600000) (hkn : kn ≤ 7302250) (hL : Ls ≤ 2560) (i : Nat) (hi : i + 4 < Ls) {hx hm : HS} (v0 : INW hx hm) (hk : ∀ hx hm : HS, INW hx hm → GW (z, (13, 600000, 7302250), code, 4, RL) (lw_Z below #[Value.ref b] s) (p, e, s, m, #[Value.ref b], below, meth, c, fun q => s.heap.size ≤ q) (aw_w (gw_wt z adX layX) hx ++ aw_w (gw_wt z adM layM) hm) kc kn 1300 [some (.ref b), some (.ref (adX 0)), some (.ref (adM 0)), some (.int (nI i))] []) : GW (z, (13, 600000, 7302250), code, 4, RL) (lw_Z below #[Value.ref b] s) (p, e, s, m, #[Value.ref b], below, meth, c, fun q => s.heap.size ≤ q) (aw_w (gw_wt z adX layX) hx ++ aw_w (gw_wt z adM layM) hm) kc kn 458 [some (.ref b), some (.ref (adX 0)), some (.ref (adM 0)), some (.int (nI i))] [] := by
  have v : INV hx hm := v0.1
  obtain ⟨⟨N, T, Wn, H⟩, r, sh, ⟨Lt, l1, l2⟩, bb⟩ := id v
  obtain ⟨wt, ww⟩ := v0.2.at H
  have M := r.mw H
  have Z := sh.mz
  have hz : ∀ j, j < 4 → SZ hx (7 + j) := fun j hj => (sh j hj).2.2.2.2
  refine gw_al1 K dL_law_458 ?_
  refine gw_al0 K dL_law_459 ?_
  refine gw_il3 K dL_law_460 ?_
  refine gw_iconst (v := 1) K dL_law_461 (by decide) ?_
  refine gw_iadd K dL_law_462 ?_
  refine gw_sld K S dL_law_463 (ixs (k := 1) (by omega) hL) ?_
  refine gw_callL K (tX6_day z.1 (z.2.1, adX, z.2.2.1, z.2.2.2.1, z.2.2.2.2.1) z.2.2.2.2.2 hx _) (i := 0) rfl (Nat.le_of_ble_eq_true rfl) fX6_day lL_49 dL_law_464 rfl clsX6 rfl (Nat.le_of_ble_eq_true rfl) hkc hkn (fun o1 hn1 q1 => ?_)
  obtain ⟨rfl, rfl⟩ := q1
  refine (show GW _ _ _ _ _ _ _ _ (.int _ :: _) from ?_)
  refine gw_pop K dL_law_467 rfl ?_
  refine gw_al2 K dL_law_468 ?_
  refine gw_al0 K dL_law_469 ?_
  refine gw_il3 K dL_law_470 ?_
  refine gw_iconst (v := 1) K dL_law_471 (by decide) ?_
  refine gw_iadd K dL_law_472 ?_
  refine gw_sld K S dL_law_473 (ixs (k := 1) (by omega) hL) ?_
  refine gw_callR K (tX7_day z.1 (z.2.1, adM, z.2.2.1, z.2.2.2.1, z.2.2.2.2.1) z.2.2.2.2.2 hm _) (i := 0) rfl (Nat.le_of_ble_eq_true rfl) fX7_day lL_52 dL_law_474 rfl clsX7 rfl (Nat.le_of_ble_eq_true rfl) hkc hkn (fun o2 hn2 q2 => ?_)
  obtain ⟨rfl, q2⟩ := q2
  subst q2
  refine (show GW _ _ _ _ _ _ _ _ (.int _ :: _) from ?_)
  refine gw_pop K dL_law_477 rfl ?_
  refine gw_goto (tgt := 1300) K dL_law_478 (by decide) ?_
  exact hk _ _ ⟨(jn_day v _).2, (wr_day v0.2 _)⟩
set_option maxHeartbeats 8000000 in
set_option maxRecDepth 100000 in
theorem law_c9 {z : G6} {p : Program} {e : Env} {s : State} {m : MethodId} {below : List Frame} {meth : Method} {c : Code} {b Ls : Nat} {xs : Nat → Int32} {adX adM : Nat → Nat} {kc kn : Nat} (K : GOK (z, (13, 600000, 7302250), code, 4, RL) (p, e, s, m, #[Value.ref b], below, meth, c, fun q => s.heap.size ≤ q)) (S : SXP (p, e, s, m, #[Value.ref b], below, meth, c, fun q => s.heap.size ≤ q) b Ls xs) (hkc : kc ≤ 600000) (hkn : kn ≤ 7302250) (hL : Ls ≤ 2560) (i : Nat) (hi : i + 4 < Ls) {hx hm : HS} (v0 : INW hx hm) (hk : ∀ hx hm : HS, INW hx hm → GW (z, (13, 600000, 7302250), code, 4, RL) (lw_Z below #[Value.ref b] s) (p, e, s, m, #[Value.ref b], below, meth, c, fun q => s.heap.size ≤ q) (aw_w (gw_wt z adX layX) hx ++ aw_w (gw_wt z adM layM) hm) kc kn 1300 [some (.ref b), some (.ref (adX 0)), some (.ref (adM 0)), some (.int (nI i))] []) : GW (z, (13, 600000, 7302250), code, 4, RL) (lw_Z below #[Value.ref b] s) (p, e, s, m, #[Value.ref b], below, meth, c, fun q => s.heap.size ≤ q) (aw_w (gw_wt z adX layX) hx ++ aw_w (gw_wt z adM layM) hm) kc kn 481 [some (.ref b), some (.ref (adX 0)), some (.ref (adM 0)), some (.int (nI i))] [] := by
  have v : INV hx hm := v0.1
  obtain ⟨⟨N, T, Wn, H⟩, r, sh, ⟨Lt, l1, l2⟩, bb⟩ := id v
  obtain ⟨wt, ww⟩ := v0.2.at H
  have M := r.mw H
  have Z := sh.mz
  have hz : ∀ j, j < 4 → SZ hx (7 + j) := fun j hj => (sh j hj).2.2.2.2
  refine gw_al1 K dL_law_481 ?_
  refine gw_al0 K dL_law_482 ?_
  refine gw_il3 K dL_law_483 ?_
  refine gw_iconst (v := 1) K dL_law_484 (by decide) ?_
  refine gw_iadd K dL_law_485 ?_
  refine gw_sld K S dL_law_486 (ixs (k := 1) (by omega) hL) ?_
  refine gw_i2l K dL_law_487 ?_
  refine gw_bipush (v := 32) K dL_law_488 (by decide) ?_
  refine gw_lshl K dL_law_490 ?_
  refine gw_al0 K dL_law_491 ?_
  refine gw_il3 K dL_law_492 ?_
  refine gw_iconst (v := 2) K dL_law_493 (by decide) ?_
  refine gw_iadd K dL_law_494 ?_
  refine gw_sld K S dL_law_495 (ixs (k := 2) (by omega) hL) ?_
  refine gw_i2l K dL_law_496 ?_
  refine gw_ldc2 K qL_53 dL_law_497 ?_
  refine gw_land K dL_law_500 ?_
  refine gw_lor K dL_law_501 ?_
  refine gw_callL K (tX6_feed z.1 (z.2.1, adX, z.2.2.1, z.2.2.2.1, z.2.2.2.2.1) z.2.2.2.2.2 hx _ l2 l1) (i := 0) rfl (Nat.le_of_ble_eq_true rfl) fX6_feed lL_55 dL_law_502 rfl clsX6 rfl (Nat.le_of_ble_eq_true rfl) hkc hkn (fun o1 hn1 q1 => ?_)
  obtain ⟨rfl, rfl⟩ := q1
  refine (show GW _ _ _ _ _ _ _ _ (.int _ :: _) from ?_)
  refine gw_pop K dL_law_505 rfl ?_
  refine gw_al2 K dL_law_506 ?_
  refine gw_al0 K dL_law_507 ?_
  refine gw_il3 K dL_law_508 ?_
  refine gw_iconst (v := 1) K dL_law_509 (by decide) ?_
  refine gw_iadd K dL_law_510 ?_
  refine gw_sld K S dL_law_511 (ixs (k := 1) (by omega) hL) ?_
  refine gw_i2l K dL_law_512 ?_
  refine gw_bipush (v := 32) K dL_law_513 (by decide) ?_
  refine gw_lshl K dL_law_515 ?_
  refine gw_al0 K dL_law_516 ?_
  refine gw_il3 K dL_law_517 ?_
  refine gw_iconst (v := 2) K dL_law_518 (by decide) ?_
  refine gw_iadd K dL_law_519 ?_
  refine gw_sld K S dL_law_520 (ixs (k := 2) (by omega) hL) ?_
  refine gw_i2l K dL_law_521 ?_
  refine gw_ldc2 K qL_53 dL_law_522 ?_
  refine gw_land K dL_law_525 ?_
  refine gw_lor K dL_law_526 ?_
  refine gw_callR K (tX7_feed z.1 (z.2.1, adM, z.2.2.1, z.2.2.2.1, z.2.2.2.2.1) z.2.2.2.2.2 hm _ ((INV.b5 r).trans l2) l1) (i := 0) rfl (Nat.le_of_ble_eq_true rfl) fX7_feed lL_59 dL_law_527 rfl clsX7 rfl (Nat.le_of_ble_eq_true rfl) hkc hkn (fun o2 hn2 q2 => ?_)
  obtain ⟨rfl, q2⟩ := q2
  subst q2
  refine (show GW _ _ _ _ _ _ _ _ (.int _ :: _) from ?_)
  refine gw_pop K dL_law_530 rfl ?_
  refine gw_goto (tgt := 1300) K dL_law_531 (by decide) ?_
  exact hk _ _ ⟨(jn_feed v _).2, (wr_feed v0.2 _)⟩
set_option maxHeartbeats 8000000 in
set_option maxRecDepth 100000 in
theorem law_c10 {z : G6} {p : Program} {e : Env} {s : State} {m : MethodId} {below : List Frame} {meth : Method} {c : Code} {b Ls : Nat} {xs : Nat → Int32} {adX adM : Nat → Nat} {kc kn : Nat} (K : GOK (z, (13, 600000, 7302250), code, 4, RL) (p, e, s, m, #[Value.ref b], below, meth, c, fun q => s.heap.size ≤ q)) (S : SXP (p, e, s, m, #[Value.ref b], below, meth, c, fun q => s.heap.size ≤ q) b Ls xs) (hkc : kc ≤ 600000) (hkn : kn ≤ 7302250) (hL : Ls ≤ 2560) (i : Nat) (hi : i + 4 < Ls) {hx hm : HS} (v0 : INW hx hm) (hk : ∀ hx hm : HS, INW hx hm → GW (z, (13, 600000, 7302250), code, 4, RL) (lw_Z below #[Value.ref b] s) (p, e, s, m, #[Value.ref b], below, meth, c, fun q => s.heap.size ≤ q) (aw_w (gw_wt z adX layX) hx ++ aw_w (gw_wt z adM layM) hm) kc kn 1300 [some (.ref b), some (.ref (adX 0)), some (.ref (adM 0)), some (.int (nI i))] []) : GW (z, (13, 600000, 7302250), code, 4, RL) (lw_Z below #[Value.ref b] s) (p, e, s, m, #[Value.ref b], below, meth, c, fun q => s.heap.size ≤ q) (aw_w (gw_wt z adX layX) hx ++ aw_w (gw_wt z adM layM) hm) kc kn 534 [some (.ref b), some (.ref (adX 0)), some (.ref (adM 0)), some (.int (nI i))] [] := by
  have v : INV hx hm := v0.1
  obtain ⟨⟨N, T, Wn, H⟩, r, sh, ⟨Lt, l1, l2⟩, bb⟩ := id v
  obtain ⟨wt, ww⟩ := v0.2.at H
  have M := r.mw H
  have Z := sh.mz
  have hz : ∀ j, j < 4 → SZ hx (7 + j) := fun j hj => (sh j hj).2.2.2.2
  refine gw_al1 K dL_law_534 ?_
  refine gw_al0 K dL_law_535 ?_
  refine gw_il3 K dL_law_536 ?_
  refine gw_iconst (v := 1) K dL_law_537 (by decide) ?_
  refine gw_iadd K dL_law_538 ?_
  refine gw_sld K S dL_law_539 (ixs (k := 1) (by omega) hL) ?_
  refine gw_callL K (tX6_end z.1 (z.2.1, adX, z.2.2.1, z.2.2.2.1, z.2.2.2.2.1) z.2.2.2.2.2 hx _) (i := 0) rfl (Nat.le_of_ble_eq_true rfl) fX6_end lL_60 dL_law_540 rfl clsX6 rfl (Nat.le_of_ble_eq_true rfl) hkc hkn (fun o1 hn1 q1 => ?_)
  obtain ⟨rfl, rfl⟩ := q1
  refine (show GW _ _ _ _ _ _ _ _ (.int _ :: _) from ?_)
  refine gw_pop K dL_law_543 rfl ?_
  refine gw_al2 K dL_law_544 ?_
  refine gw_al0 K dL_law_545 ?_
  refine gw_il3 K dL_law_546 ?_
  refine gw_iconst (v := 1) K dL_law_547 (by decide) ?_
  refine gw_iadd K dL_law_548 ?_
  refine gw_sld K S dL_law_549 (ixs (k := 1) (by omega) hL) ?_
  refine gw_callR K (tX7_end z.1 (z.2.1, adM, z.2.2.1, z.2.2.2.1, z.2.2.2.2.1) z.2.2.2.2.2 hm _) (i := 0) rfl (Nat.le_of_ble_eq_true rfl) fX7_end lL_63 dL_law_550 rfl clsX7 rfl (Nat.le_of_ble_eq_true rfl) hkc hkn (fun o2 hn2 q2 => ?_)
  obtain ⟨rfl, q2⟩ := q2
  subst q2
  refine (show GW _ _ _ _ _ _ _ _ (.int _ :: _) from ?_)
  refine gw_pop K dL_law_553 rfl ?_
  refine gw_goto (tgt := 1300) K dL_law_554 (by decide) ?_
  exact hk _ _ ⟨(jn_end v _).2, (wr_end v0.2 _)⟩
set_option maxHeartbeats 8000000 in
set_option maxRecDepth 100000 in
theorem law_c11 {z : G6} {p : Program} {e : Env} {s : State} {m : MethodId} {below : List Frame} {meth : Method} {c : Code} {b Ls : Nat} {xs : Nat → Int32} {adX adM : Nat → Nat} {kc kn : Nat} (K : GOK (z, (13, 600000, 7302250), code, 4, RL) (p, e, s, m, #[Value.ref b], below, meth, c, fun q => s.heap.size ≤ q)) (S : SXP (p, e, s, m, #[Value.ref b], below, meth, c, fun q => s.heap.size ≤ q) b Ls xs) (hkc : kc ≤ 600000) (hkn : kn ≤ 7302250) (hL : Ls ≤ 2560) (i : Nat) (hi : i + 4 < Ls) {hx hm : HS} (v0 : INW hx hm) (hk : ∀ hx hm : HS, INW hx hm → GW (z, (13, 600000, 7302250), code, 4, RL) (lw_Z below #[Value.ref b] s) (p, e, s, m, #[Value.ref b], below, meth, c, fun q => s.heap.size ≤ q) (aw_w (gw_wt z adX layX) hx ++ aw_w (gw_wt z adM layM) hm) kc kn 1300 [some (.ref b), some (.ref (adX 0)), some (.ref (adM 0)), some (.int (nI i))] []) : GW (z, (13, 600000, 7302250), code, 4, RL) (lw_Z below #[Value.ref b] s) (p, e, s, m, #[Value.ref b], below, meth, c, fun q => s.heap.size ≤ q) (aw_w (gw_wt z adX layX) hx ++ aw_w (gw_wt z adM layM) hm) kc kn 557 [some (.ref b), some (.ref (adX 0)), some (.ref (adM 0)), some (.int (nI i))] [] := by
  have v : INV hx hm := v0.1
  obtain ⟨⟨N, T, Wn, H⟩, r, sh, ⟨Lt, l1, l2⟩, bb⟩ := id v
  obtain ⟨wt, ww⟩ := v0.2.at H
  have M := r.mw H
  have Z := sh.mz
  have hz : ∀ j, j < 4 → SZ hx (7 + j) := fun j hj => (sh j hj).2.2.2.2
  refine gw_al1 K dL_law_557 ?_
  refine gw_callL K (tX6_rules z.1 (z.2.1, adX, z.2.2.1, z.2.2.2.1, z.2.2.2.2.1) z.2.2.2.2.2 hx _ Lt rfl l2 l1) (i := 0) rfl (Nat.le_of_ble_eq_true rfl) fX6_rules lL_64 dL_law_558 rfl clsX6 rfl (Nat.le_of_ble_eq_true rfl) hkc hkn (fun o1 hn1 q1 => ?_)
  obtain ⟨rfl, q1⟩ := q1
  refine (show GW _ _ _ _ _ _ _ _ (.int _ :: _) from ?_)
  refine gw_pop K dL_law_561 rfl ?_
  refine gw_al2 K dL_law_562 ?_
  refine gw_callR K (tX7_rules z.1 (z.2.1, adM, z.2.2.1, z.2.2.2.1, z.2.2.2.2.1) z.2.2.2.2.2 hm _ Lt ⟨r.r (33, 14) (by decide), (INV.b5 r).trans l2, l1⟩ (fun j _ => bb j)) (i := 0) rfl (Nat.le_of_ble_eq_true rfl) fX7_rules lL_68 dL_law_563 rfl clsX7 rfl (Nat.le_of_ble_eq_true rfl) hkc hkn (fun o2 hn2 q2 => ?_)
  obtain ⟨rfl, q2⟩ := q2
  refine (show GW _ _ _ _ _ _ _ _ (.int _ :: _) from ?_)
  refine gw_pop K dL_law_566 rfl ?_
  refine gw_goto (tgt := 1300) K dL_law_567 (by decide) ?_
  exact hk _ _ ⟨(jn_rules v q1 q2), (wr_rules v0.2 q1)⟩
set_option maxHeartbeats 8000000 in
set_option maxRecDepth 100000 in
theorem law_c12 {z : G6} {p : Program} {e : Env} {s : State} {m : MethodId} {below : List Frame} {meth : Method} {c : Code} {b Ls : Nat} {xs : Nat → Int32} {adX adM : Nat → Nat} {kc kn : Nat} (K : GOK (z, (13, 600000, 7302250), code, 4, RL) (p, e, s, m, #[Value.ref b], below, meth, c, fun q => s.heap.size ≤ q)) (S : SXP (p, e, s, m, #[Value.ref b], below, meth, c, fun q => s.heap.size ≤ q) b Ls xs) (hkc : kc ≤ 600000) (hkn : kn ≤ 7302250) (hL : Ls ≤ 2560) (i : Nat) (hi : i + 4 < Ls) {hx hm : HS} (v0 : INW hx hm) (hk : ∀ hx hm : HS, INW hx hm → GW (z, (13, 600000, 7302250), code, 4, RL) (lw_Z below #[Value.ref b] s) (p, e, s, m, #[Value.ref b], below, meth, c, fun q => s.heap.size ≤ q) (aw_w (gw_wt z adX layX) hx ++ aw_w (gw_wt z adM layM) hm) kc kn 1300 [some (.ref b), some (.ref (adX 0)), some (.ref (adM 0)), some (.int (nI i))] []) : GW (z, (13, 600000, 7302250), code, 4, RL) (lw_Z below #[Value.ref b] s) (p, e, s, m, #[Value.ref b], below, meth, c, fun q => s.heap.size ≤ q) (aw_w (gw_wt z adX layX) hx ++ aw_w (gw_wt z adM layM) hm) kc kn 570 [some (.ref b), some (.ref (adX 0)), some (.ref (adM 0)), some (.int (nI i))] [] := by
  have v : INV hx hm := v0.1
  obtain ⟨⟨N, T, Wn, H⟩, r, sh, ⟨Lt, l1, l2⟩, bb⟩ := id v
  obtain ⟨wt, ww⟩ := v0.2.at H
  have M := r.mw H
  have Z := sh.mz
  have hz : ∀ j, j < 4 → SZ hx (7 + j) := fun j hj => (sh j hj).2.2.2.2
  refine gw_al1 K dL_law_570 ?_
  refine gw_callL K (tX6_fault z.1 (z.2.1, adX, z.2.2.1, z.2.2.2.1, z.2.2.2.2.1) z.2.2.2.2.2 hx H) (i := 0) rfl (Nat.le_of_ble_eq_true rfl) fX6_fault lL_69 dL_law_571 rfl clsX6 rfl (Nat.le_of_ble_eq_true rfl) hkc hkn (fun o1 hn1 q1 => ?_)
  obtain ⟨⟨r1, rfl⟩, q1⟩ := q1
  refine (show GW _ _ _ _ _ _ _ _ (.int _ :: _) from ?_)
  refine gw_pop K dL_law_574 rfl ?_
  refine gw_al2 K dL_law_575 ?_
  refine gw_callR K (tX7_fault z.1 (z.2.1, adM, z.2.2.1, z.2.2.2.1, z.2.2.2.2.1) z.2.2.2.2.2 hm) (i := 0) rfl (Nat.le_of_ble_eq_true rfl) fX7_fault lL_72 dL_law_576 rfl clsX7 rfl (Nat.le_of_ble_eq_true rfl) hkc hkn (fun o2 hn2 q2 => ?_)
  obtain ⟨rfl, q2⟩ := q2
  subst q2
  refine (show GW _ _ _ _ _ _ _ _ (.int _ :: _) from ?_)
  refine gw_pop K dL_law_579 rfl ?_
  refine gw_goto (tgt := 1300) K dL_law_580 (by decide) ?_
  exact hk _ _ ⟨(v.q q1), (v0.2.q q1)⟩
set_option maxHeartbeats 8000000 in
set_option maxRecDepth 100000 in
theorem law_c13 {z : G6} {p : Program} {e : Env} {s : State} {m : MethodId} {below : List Frame} {meth : Method} {c : Code} {b Ls : Nat} {xs : Nat → Int32} {adX adM : Nat → Nat} {kc kn : Nat} (K : GOK (z, (13, 600000, 7302250), code, 4, RL) (p, e, s, m, #[Value.ref b], below, meth, c, fun q => s.heap.size ≤ q)) (S : SXP (p, e, s, m, #[Value.ref b], below, meth, c, fun q => s.heap.size ≤ q) b Ls xs) (hkc : kc ≤ 600000) (hkn : kn ≤ 7302250) (hL : Ls ≤ 2560) (i : Nat) (hi : i + 4 < Ls) {hx hm : HS} (v0 : INW hx hm) (hk : ∀ hx hm : HS, INW hx hm → GW (z, (13, 600000, 7302250), code, 4, RL) (lw_Z below #[Value.ref b] s) (p, e, s, m, #[Value.ref b], below, meth, c, fun q => s.heap.size ≤ q) (aw_w (gw_wt z adX layX) hx ++ aw_w (gw_wt z adM layM) hm) kc kn 1300 [some (.ref b), some (.ref (adX 0)), some (.ref (adM 0)), some (.int (nI i))] []) : GW (z, (13, 600000, 7302250), code, 4, RL) (lw_Z below #[Value.ref b] s) (p, e, s, m, #[Value.ref b], below, meth, c, fun q => s.heap.size ≤ q) (aw_w (gw_wt z adX layX) hx ++ aw_w (gw_wt z adM layM) hm) kc kn 583 [some (.ref b), some (.ref (adX 0)), some (.ref (adM 0)), some (.int (nI i))] [] := by
  have v : INV hx hm := v0.1
  obtain ⟨⟨N, T, Wn, H⟩, r, sh, ⟨Lt, l1, l2⟩, bb⟩ := id v
  obtain ⟨wt, ww⟩ := v0.2.at H
  have M := r.mw H
  have Z := sh.mz
  have hz : ∀ j, j < 4 → SZ hx (7 + j) := fun j hj => (sh j hj).2.2.2.2
  refine gw_al1 K dL_law_583 ?_
  refine gw_al0 K dL_law_584 ?_
  refine gw_il3 K dL_law_585 ?_
  refine gw_iconst (v := 1) K dL_law_586 (by decide) ?_
  refine gw_iadd K dL_law_587 ?_
  refine gw_sld K S dL_law_588 (ixs (k := 1) (by omega) hL) ?_
  refine gw_callL K (tX6_rule z.1 (z.2.1, adX, z.2.2.1, z.2.2.2.1, z.2.2.2.2.1) z.2.2.2.2.2 hx _ H) (i := 0) rfl (Nat.le_of_ble_eq_true rfl) fX6_rule lL_73 dL_law_589 rfl clsX6 rfl (Nat.le_of_ble_eq_true rfl) hkc hkn (fun o1 hn1 q1 => ?_)
  obtain ⟨⟨r1, rfl⟩, q1⟩ := q1
  refine (show GW _ _ _ _ _ _ _ _ (.int _ :: _) from ?_)
  refine gw_pop K dL_law_592 rfl ?_
  refine gw_al2 K dL_law_593 ?_
  refine gw_al0 K dL_law_594 ?_
  refine gw_il3 K dL_law_595 ?_
  refine gw_iconst (v := 1) K dL_law_596 (by decide) ?_
  refine gw_iadd K dL_law_597 ?_
  refine gw_sld K S dL_law_598 (ixs (k := 1) (by omega) hL) ?_
  refine gw_callR K (tX7_rule z.1 (z.2.1, adM, z.2.2.1, z.2.2.2.1, z.2.2.2.2.1) z.2.2.2.2.2 hm _) (i := 0) rfl (Nat.le_of_ble_eq_true rfl) fX7_rule lL_76 dL_law_599 rfl clsX7 rfl (Nat.le_of_ble_eq_true rfl) hkc hkn (fun o2 hn2 q2 => ?_)
  obtain ⟨rfl, q2⟩ := q2
  subst q2
  refine (show GW _ _ _ _ _ _ _ _ (.int _ :: _) from ?_)
  refine gw_pop K dL_law_602 rfl ?_
  refine gw_goto (tgt := 1300) K dL_law_603 (by decide) ?_
  exact hk _ _ ⟨(v.q q1), (v0.2.q q1)⟩
set_option maxHeartbeats 8000000 in
set_option maxRecDepth 100000 in
theorem law_c14 {z : G6} {p : Program} {e : Env} {s : State} {m : MethodId} {below : List Frame} {meth : Method} {c : Code} {b Ls : Nat} {xs : Nat → Int32} {adX adM : Nat → Nat} {kc kn : Nat} (K : GOK (z, (13, 600000, 7302250), code, 4, RL) (p, e, s, m, #[Value.ref b], below, meth, c, fun q => s.heap.size ≤ q)) (S : SXP (p, e, s, m, #[Value.ref b], below, meth, c, fun q => s.heap.size ≤ q) b Ls xs) (hkc : kc ≤ 600000) (hkn : kn ≤ 7302250) (hL : Ls ≤ 2560) (i : Nat) (hi : i + 4 < Ls) {hx hm : HS} (v0 : INW hx hm) (hk : ∀ hx hm : HS, INW hx hm → GW (z, (13, 600000, 7302250), code, 4, RL) (lw_Z below #[Value.ref b] s) (p, e, s, m, #[Value.ref b], below, meth, c, fun q => s.heap.size ≤ q) (aw_w (gw_wt z adX layX) hx ++ aw_w (gw_wt z adM layM) hm) kc kn 1300 [some (.ref b), some (.ref (adX 0)), some (.ref (adM 0)), some (.int (nI i))] []) : GW (z, (13, 600000, 7302250), code, 4, RL) (lw_Z below #[Value.ref b] s) (p, e, s, m, #[Value.ref b], below, meth, c, fun q => s.heap.size ≤ q) (aw_w (gw_wt z adX layX) hx ++ aw_w (gw_wt z adM layM) hm) kc kn 606 [some (.ref b), some (.ref (adX 0)), some (.ref (adM 0)), some (.int (nI i))] [] := by
  have v : INV hx hm := v0.1
  obtain ⟨⟨N, T, Wn, H⟩, r, sh, ⟨Lt, l1, l2⟩, bb⟩ := id v
  obtain ⟨wt, ww⟩ := v0.2.at H
  have M := r.mw H
  have Z := sh.mz
  have hz : ∀ j, j < 4 → SZ hx (7 + j) := fun j hj => (sh j hj).2.2.2.2
  refine gw_al1 K dL_law_606 ?_
  refine gw_al0 K dL_law_607 ?_
  refine gw_il3 K dL_law_608 ?_
  refine gw_iconst (v := 1) K dL_law_609 (by decide) ?_
  refine gw_iadd K dL_law_610 ?_
  refine gw_sld K S dL_law_611 (ixs (k := 1) (by omega) hL) ?_
  refine gw_callL K (tX6_trust z.1 (z.2.1, adX, z.2.2.1, z.2.2.2.1, z.2.2.2.2.1) z.2.2.2.2.2 hx _ H) (i := 0) rfl (Nat.le_of_ble_eq_true rfl) fX6_trust lL_77 dL_law_612 rfl clsX6 rfl (Nat.le_of_ble_eq_true rfl) hkc hkn (fun o1 hn1 q1 => ?_)
  obtain ⟨⟨r1, rfl⟩, q1⟩ := q1
  refine (show GW _ _ _ _ _ _ _ _ (.int _ :: _) from ?_)
  refine gw_pop K dL_law_615 rfl ?_
  refine gw_al2 K dL_law_616 ?_
  refine gw_al0 K dL_law_617 ?_
  refine gw_il3 K dL_law_618 ?_
  refine gw_iconst (v := 1) K dL_law_619 (by decide) ?_
  refine gw_iadd K dL_law_620 ?_
  refine gw_sld K S dL_law_621 (ixs (k := 1) (by omega) hL) ?_
  refine gw_callR K (tX7_trust z.1 (z.2.1, adM, z.2.2.1, z.2.2.2.1, z.2.2.2.2.1) z.2.2.2.2.2 hm _ M) (i := 0) rfl (Nat.le_of_ble_eq_true rfl) fX7_trust lL_80 dL_law_622 rfl clsX7 rfl (Nat.le_of_ble_eq_true rfl) hkc hkn (fun o2 hn2 q2 => ?_)
  obtain ⟨⟨r2, rfl⟩, q2⟩ := q2
  refine (show GW _ _ _ _ _ _ _ _ (.int _ :: _) from ?_)
  refine gw_pop K dL_law_625 rfl ?_
  refine gw_goto (tgt := 1300) K dL_law_626 (by decide) ?_
  exact hk _ _ ⟨((v.q q1).m q2), (v0.2.q q1)⟩
set_option maxHeartbeats 8000000 in
set_option maxRecDepth 100000 in
theorem law_c15 {z : G6} {p : Program} {e : Env} {s : State} {m : MethodId} {below : List Frame} {meth : Method} {c : Code} {b Ls : Nat} {xs : Nat → Int32} {adX adM : Nat → Nat} {kc kn : Nat} (K : GOK (z, (13, 600000, 7302250), code, 4, RL) (p, e, s, m, #[Value.ref b], below, meth, c, fun q => s.heap.size ≤ q)) (S : SXP (p, e, s, m, #[Value.ref b], below, meth, c, fun q => s.heap.size ≤ q) b Ls xs) (hkc : kc ≤ 600000) (hkn : kn ≤ 7302250) (hL : Ls ≤ 2560) (i : Nat) (hi : i + 4 < Ls) {hx hm : HS} (v0 : INW hx hm) (hk : ∀ hx hm : HS, INW hx hm → GW (z, (13, 600000, 7302250), code, 4, RL) (lw_Z below #[Value.ref b] s) (p, e, s, m, #[Value.ref b], below, meth, c, fun q => s.heap.size ≤ q) (aw_w (gw_wt z adX layX) hx ++ aw_w (gw_wt z adM layM) hm) kc kn 1300 [some (.ref b), some (.ref (adX 0)), some (.ref (adM 0)), some (.int (nI i))] []) : GW (z, (13, 600000, 7302250), code, 4, RL) (lw_Z below #[Value.ref b] s) (p, e, s, m, #[Value.ref b], below, meth, c, fun q => s.heap.size ≤ q) (aw_w (gw_wt z adX layX) hx ++ aw_w (gw_wt z adM layM) hm) kc kn 629 [some (.ref b), some (.ref (adX 0)), some (.ref (adM 0)), some (.int (nI i))] [] := by
  have v : INV hx hm := v0.1
  obtain ⟨⟨N, T, Wn, H⟩, r, sh, ⟨Lt, l1, l2⟩, bb⟩ := id v
  obtain ⟨wt, ww⟩ := v0.2.at H
  have M := r.mw H
  have Z := sh.mz
  have hz : ∀ j, j < 4 → SZ hx (7 + j) := fun j hj => (sh j hj).2.2.2.2
  refine gw_al1 K dL_law_629 ?_
  refine gw_al0 K dL_law_630 ?_
  refine gw_il3 K dL_law_631 ?_
  refine gw_iconst (v := 1) K dL_law_632 (by decide) ?_
  refine gw_iadd K dL_law_633 ?_
  refine gw_sld K S dL_law_634 (ixs (k := 1) (by omega) hL) ?_
  refine gw_callL K (tX6_heap z.1 (z.2.1, adX, z.2.2.1, z.2.2.2.1, z.2.2.2.2.1) z.2.2.2.2.2 hx _ H) (i := 0) rfl (Nat.le_of_ble_eq_true rfl) fX6_heap lL_81 dL_law_635 rfl clsX6 rfl (Nat.le_of_ble_eq_true rfl) hkc hkn (fun o1 hn1 q1 => ?_)
  obtain ⟨⟨r1, rfl⟩, q1⟩ := q1
  refine (show GW _ _ _ _ _ _ _ _ (.int _ :: _) from ?_)
  refine gw_pop K dL_law_638 rfl ?_
  refine gw_al2 K dL_law_639 ?_
  refine gw_al0 K dL_law_640 ?_
  refine gw_il3 K dL_law_641 ?_
  refine gw_iconst (v := 1) K dL_law_642 (by decide) ?_
  refine gw_iadd K dL_law_643 ?_
  refine gw_sld K S dL_law_644 (ixs (k := 1) (by omega) hL) ?_
  refine gw_callR K (tX7_heap z.1 (z.2.1, adM, z.2.2.1, z.2.2.2.1, z.2.2.2.2.1) z.2.2.2.2.2 hm _ M) (i := 0) rfl (Nat.le_of_ble_eq_true rfl) fX7_heap lL_84 dL_law_645 rfl clsX7 rfl (Nat.le_of_ble_eq_true rfl) hkc hkn (fun o2 hn2 q2 => ?_)
  obtain ⟨⟨r2, rfl⟩, q2⟩ := q2
  refine (show GW _ _ _ _ _ _ _ _ (.int _ :: _) from ?_)
  refine gw_pop K dL_law_648 rfl ?_
  refine gw_goto (tgt := 1300) K dL_law_649 (by decide) ?_
  exact hk _ _ ⟨((v.q q1).m q2), (v0.2.q q1)⟩
set_option maxHeartbeats 8000000 in
set_option maxRecDepth 100000 in
theorem law_c16 {z : G6} {p : Program} {e : Env} {s : State} {m : MethodId} {below : List Frame} {meth : Method} {c : Code} {b Ls : Nat} {xs : Nat → Int32} {adX adM : Nat → Nat} {kc kn : Nat} (K : GOK (z, (13, 600000, 7302250), code, 4, RL) (p, e, s, m, #[Value.ref b], below, meth, c, fun q => s.heap.size ≤ q)) (S : SXP (p, e, s, m, #[Value.ref b], below, meth, c, fun q => s.heap.size ≤ q) b Ls xs) (hkc : kc ≤ 600000) (hkn : kn ≤ 7302250) (hL : Ls ≤ 2560) (i : Nat) (hi : i + 4 < Ls) {hx hm : HS} (v0 : INW hx hm) (hk : ∀ hx hm : HS, INW hx hm → GW (z, (13, 600000, 7302250), code, 4, RL) (lw_Z below #[Value.ref b] s) (p, e, s, m, #[Value.ref b], below, meth, c, fun q => s.heap.size ≤ q) (aw_w (gw_wt z adX layX) hx ++ aw_w (gw_wt z adM layM) hm) kc kn 1300 [some (.ref b), some (.ref (adX 0)), some (.ref (adM 0)), some (.int (nI i))] []) : GW (z, (13, 600000, 7302250), code, 4, RL) (lw_Z below #[Value.ref b] s) (p, e, s, m, #[Value.ref b], below, meth, c, fun q => s.heap.size ≤ q) (aw_w (gw_wt z adX layX) hx ++ aw_w (gw_wt z adM layM) hm) kc kn 652 [some (.ref b), some (.ref (adX 0)), some (.ref (adM 0)), some (.int (nI i))] [] := by
  have v : INV hx hm := v0.1
  obtain ⟨⟨N, T, Wn, H⟩, r, sh, ⟨Lt, l1, l2⟩, bb⟩ := id v
  obtain ⟨wt, ww⟩ := v0.2.at H
  have M := r.mw H
  have Z := sh.mz
  have hz : ∀ j, j < 4 → SZ hx (7 + j) := fun j hj => (sh j hj).2.2.2.2
  refine gw_al1 K dL_law_652 ?_
  refine gw_al0 K dL_law_653 ?_
  refine gw_il3 K dL_law_654 ?_
  refine gw_iconst (v := 1) K dL_law_655 (by decide) ?_
  refine gw_iadd K dL_law_656 ?_
  refine gw_sld K S dL_law_657 (ixs (k := 1) (by omega) hL) ?_
  refine gw_al0 K dL_law_658 ?_
  refine gw_il3 K dL_law_659 ?_
  refine gw_iconst (v := 2) K dL_law_660 (by decide) ?_
  refine gw_iadd K dL_law_661 ?_
  refine gw_sld K S dL_law_662 (ixs (k := 2) (by omega) hL) ?_
  refine gw_callL K (tX6_cut z.1 (z.2.1, adX, z.2.2.1, z.2.2.2.1, z.2.2.2.2.1) z.2.2.2.2.2 hx _ _ H) (i := 0) rfl (Nat.le_of_ble_eq_true rfl) fX6_cut lL_85 dL_law_663 rfl clsX6 rfl (Nat.le_of_ble_eq_true rfl) hkc hkn (fun o1 hn1 q1 => ?_)
  obtain ⟨⟨r1, rfl⟩, q1⟩ := q1
  refine (show GW _ _ _ _ _ _ _ _ (.int _ :: _) from ?_)
  refine gw_pop K dL_law_666 rfl ?_
  refine gw_al2 K dL_law_667 ?_
  refine gw_al0 K dL_law_668 ?_
  refine gw_il3 K dL_law_669 ?_
  refine gw_iconst (v := 1) K dL_law_670 (by decide) ?_
  refine gw_iadd K dL_law_671 ?_
  refine gw_sld K S dL_law_672 (ixs (k := 1) (by omega) hL) ?_
  refine gw_al0 K dL_law_673 ?_
  refine gw_il3 K dL_law_674 ?_
  refine gw_iconst (v := 2) K dL_law_675 (by decide) ?_
  refine gw_iadd K dL_law_676 ?_
  refine gw_sld K S dL_law_677 (ixs (k := 2) (by omega) hL) ?_
  refine gw_callR K (tX7_cut z.1 (z.2.1, adM, z.2.2.1, z.2.2.2.1, z.2.2.2.2.1) z.2.2.2.2.2 hm _ _ M) (i := 0) rfl (Nat.le_of_ble_eq_true rfl) fX7_cut lL_88 dL_law_678 rfl clsX7 rfl (Nat.le_of_ble_eq_true rfl) hkc hkn (fun o2 hn2 q2 => ?_)
  obtain ⟨⟨r2, rfl⟩, q2⟩ := q2
  refine (show GW _ _ _ _ _ _ _ _ (.int _ :: _) from ?_)
  refine gw_pop K dL_law_681 rfl ?_
  refine gw_goto (tgt := 1300) K dL_law_682 (by decide) ?_
  exact hk _ _ ⟨((v.q q1).m q2), (v0.2.q q1)⟩
set_option maxHeartbeats 8000000 in
set_option maxRecDepth 100000 in
theorem law_c17 {z : G6} {p : Program} {e : Env} {s : State} {m : MethodId} {below : List Frame} {meth : Method} {c : Code} {b Ls : Nat} {xs : Nat → Int32} {adX adM : Nat → Nat} {kc kn : Nat} (K : GOK (z, (13, 600000, 7302250), code, 4, RL) (p, e, s, m, #[Value.ref b], below, meth, c, fun q => s.heap.size ≤ q)) (S : SXP (p, e, s, m, #[Value.ref b], below, meth, c, fun q => s.heap.size ≤ q) b Ls xs) (hkc : kc ≤ 600000) (hkn : kn ≤ 7302250) (hL : Ls ≤ 2560) (i : Nat) (hi : i + 4 < Ls) {hx hm : HS} (v0 : INW hx hm) (hk : ∀ hx hm : HS, INW hx hm → GW (z, (13, 600000, 7302250), code, 4, RL) (lw_Z below #[Value.ref b] s) (p, e, s, m, #[Value.ref b], below, meth, c, fun q => s.heap.size ≤ q) (aw_w (gw_wt z adX layX) hx ++ aw_w (gw_wt z adM layM) hm) kc kn 1300 [some (.ref b), some (.ref (adX 0)), some (.ref (adM 0)), some (.int (nI i))] []) : GW (z, (13, 600000, 7302250), code, 4, RL) (lw_Z below #[Value.ref b] s) (p, e, s, m, #[Value.ref b], below, meth, c, fun q => s.heap.size ≤ q) (aw_w (gw_wt z adX layX) hx ++ aw_w (gw_wt z adM layM) hm) kc kn 685 [some (.ref b), some (.ref (adX 0)), some (.ref (adM 0)), some (.int (nI i))] [] := by
  have v : INV hx hm := v0.1
  obtain ⟨⟨N, T, Wn, H⟩, r, sh, ⟨Lt, l1, l2⟩, bb⟩ := id v
  obtain ⟨wt, ww⟩ := v0.2.at H
  have M := r.mw H
  have Z := sh.mz
  have hz : ∀ j, j < 4 → SZ hx (7 + j) := fun j hj => (sh j hj).2.2.2.2
  refine gw_al1 K dL_law_685 ?_
  refine gw_al0 K dL_law_686 ?_
  refine gw_il3 K dL_law_687 ?_
  refine gw_iconst (v := 1) K dL_law_688 (by decide) ?_
  refine gw_iadd K dL_law_689 ?_
  refine gw_sld K S dL_law_690 (ixs (k := 1) (by omega) hL) ?_
  refine gw_callL K (tX6_low z.1 (z.2.1, adX, z.2.2.1, z.2.2.2.1, z.2.2.2.2.1) z.2.2.2.2.2 hx _ H) (i := 0) rfl (Nat.le_of_ble_eq_true rfl) fX6_low lL_89 dL_law_691 rfl clsX6 rfl (Nat.le_of_ble_eq_true rfl) hkc hkn (fun o1 hn1 q1 => ?_)
  obtain ⟨⟨r1, rfl⟩, q1⟩ := q1
  refine (show GW _ _ _ _ _ _ _ _ (.int _ :: _) from ?_)
  refine gw_pop K dL_law_694 rfl ?_
  refine gw_al2 K dL_law_695 ?_
  refine gw_al0 K dL_law_696 ?_
  refine gw_il3 K dL_law_697 ?_
  refine gw_iconst (v := 1) K dL_law_698 (by decide) ?_
  refine gw_iadd K dL_law_699 ?_
  refine gw_sld K S dL_law_700 (ixs (k := 1) (by omega) hL) ?_
  refine gw_callR K (tX7_low z.1 (z.2.1, adM, z.2.2.1, z.2.2.2.1, z.2.2.2.2.1) z.2.2.2.2.2 hm _ M) (i := 0) rfl (Nat.le_of_ble_eq_true rfl) fX7_low lL_92 dL_law_701 rfl clsX7 rfl (Nat.le_of_ble_eq_true rfl) hkc hkn (fun o2 hn2 q2 => ?_)
  obtain ⟨⟨r2, rfl⟩, q2⟩ := q2
  refine (show GW _ _ _ _ _ _ _ _ (.int _ :: _) from ?_)
  refine gw_pop K dL_law_704 rfl ?_
  refine gw_goto (tgt := 1300) K dL_law_705 (by decide) ?_
  exact hk _ _ ⟨((v.q q1).m q2), (v0.2.q q1)⟩
set_option maxHeartbeats 8000000 in
set_option maxRecDepth 100000 in
theorem law_c18 {z : G6} {p : Program} {e : Env} {s : State} {m : MethodId} {below : List Frame} {meth : Method} {c : Code} {b Ls : Nat} {xs : Nat → Int32} {adX adM : Nat → Nat} {kc kn : Nat} (K : GOK (z, (13, 600000, 7302250), code, 4, RL) (p, e, s, m, #[Value.ref b], below, meth, c, fun q => s.heap.size ≤ q)) (S : SXP (p, e, s, m, #[Value.ref b], below, meth, c, fun q => s.heap.size ≤ q) b Ls xs) (hkc : kc ≤ 600000) (hkn : kn ≤ 7302250) (hL : Ls ≤ 2560) (i : Nat) (hi : i + 4 < Ls) {hx hm : HS} (v0 : INW hx hm) (hk : ∀ hx hm : HS, INW hx hm → GW (z, (13, 600000, 7302250), code, 4, RL) (lw_Z below #[Value.ref b] s) (p, e, s, m, #[Value.ref b], below, meth, c, fun q => s.heap.size ≤ q) (aw_w (gw_wt z adX layX) hx ++ aw_w (gw_wt z adM layM) hm) kc kn 1300 [some (.ref b), some (.ref (adX 0)), some (.ref (adM 0)), some (.int (nI i))] []) : GW (z, (13, 600000, 7302250), code, 4, RL) (lw_Z below #[Value.ref b] s) (p, e, s, m, #[Value.ref b], below, meth, c, fun q => s.heap.size ≤ q) (aw_w (gw_wt z adX layX) hx ++ aw_w (gw_wt z adM layM) hm) kc kn 708 [some (.ref b), some (.ref (adX 0)), some (.ref (adM 0)), some (.int (nI i))] [] := by
  have v : INV hx hm := v0.1
  obtain ⟨⟨N, T, Wn, H⟩, r, sh, ⟨Lt, l1, l2⟩, bb⟩ := id v
  obtain ⟨wt, ww⟩ := v0.2.at H
  have M := r.mw H
  have Z := sh.mz
  have hz : ∀ j, j < 4 → SZ hx (7 + j) := fun j hj => (sh j hj).2.2.2.2
  refine gw_al1 K dL_law_708 ?_
  refine gw_al0 K dL_law_709 ?_
  refine gw_il3 K dL_law_710 ?_
  refine gw_iconst (v := 1) K dL_law_711 (by decide) ?_
  refine gw_iadd K dL_law_712 ?_
  refine gw_sld K S dL_law_713 (ixs (k := 1) (by omega) hL) ?_
  refine gw_callL K (tX6_twins z.1 (z.2.1, adX, z.2.2.1, z.2.2.2.1, z.2.2.2.2.1) z.2.2.2.2.2 hx _ H) (i := 0) rfl (Nat.le_of_ble_eq_true rfl) fX6_twins lL_93 dL_law_714 rfl clsX6 rfl (Nat.le_of_ble_eq_true rfl) hkc hkn (fun o1 hn1 q1 => ?_)
  obtain ⟨⟨r1, rfl⟩, q1⟩ := q1
  refine (show GW _ _ _ _ _ _ _ _ (.int _ :: _) from ?_)
  refine gw_pop K dL_law_717 rfl ?_
  refine gw_al2 K dL_law_718 ?_
  refine gw_al0 K dL_law_719 ?_
  refine gw_il3 K dL_law_720 ?_
  refine gw_iconst (v := 1) K dL_law_721 (by decide) ?_
  refine gw_iadd K dL_law_722 ?_
  refine gw_sld K S dL_law_723 (ixs (k := 1) (by omega) hL) ?_
  refine gw_callR K (tX7_twins z.1 (z.2.1, adM, z.2.2.1, z.2.2.2.1, z.2.2.2.2.1) z.2.2.2.2.2 hm _ M) (i := 0) rfl (Nat.le_of_ble_eq_true rfl) fX7_twins lL_96 dL_law_724 rfl clsX7 rfl (Nat.le_of_ble_eq_true rfl) hkc hkn (fun o2 hn2 q2 => ?_)
  obtain ⟨⟨r2, rfl⟩, q2⟩ := q2
  refine (show GW _ _ _ _ _ _ _ _ (.int _ :: _) from ?_)
  refine gw_pop K dL_law_727 rfl ?_
  refine gw_goto (tgt := 1300) K dL_law_728 (by decide) ?_
  exact hk _ _ ⟨((v.q q1).m q2), (v0.2.q q1)⟩
set_option maxHeartbeats 8000000 in
set_option maxRecDepth 100000 in
theorem law_c19 {z : G6} {p : Program} {e : Env} {s : State} {m : MethodId} {below : List Frame} {meth : Method} {c : Code} {b Ls : Nat} {xs : Nat → Int32} {adX adM : Nat → Nat} {kc kn : Nat} (K : GOK (z, (13, 600000, 7302250), code, 4, RL) (p, e, s, m, #[Value.ref b], below, meth, c, fun q => s.heap.size ≤ q)) (S : SXP (p, e, s, m, #[Value.ref b], below, meth, c, fun q => s.heap.size ≤ q) b Ls xs) (hkc : kc ≤ 600000) (hkn : kn ≤ 7302250) (hL : Ls ≤ 2560) (i : Nat) (hi : i + 4 < Ls) {hx hm : HS} (v0 : INW hx hm) (hk : ∀ hx hm : HS, INW hx hm → GW (z, (13, 600000, 7302250), code, 4, RL) (lw_Z below #[Value.ref b] s) (p, e, s, m, #[Value.ref b], below, meth, c, fun q => s.heap.size ≤ q) (aw_w (gw_wt z adX layX) hx ++ aw_w (gw_wt z adM layM) hm) kc kn 1300 [some (.ref b), some (.ref (adX 0)), some (.ref (adM 0)), some (.int (nI i))] []) : GW (z, (13, 600000, 7302250), code, 4, RL) (lw_Z below #[Value.ref b] s) (p, e, s, m, #[Value.ref b], below, meth, c, fun q => s.heap.size ≤ q) (aw_w (gw_wt z adX layX) hx ++ aw_w (gw_wt z adM layM) hm) kc kn 731 [some (.ref b), some (.ref (adX 0)), some (.ref (adM 0)), some (.int (nI i))] [] := by
  have v : INV hx hm := v0.1
  obtain ⟨⟨N, T, Wn, H⟩, r, sh, ⟨Lt, l1, l2⟩, bb⟩ := id v
  obtain ⟨wt, ww⟩ := v0.2.at H
  have M := r.mw H
  have Z := sh.mz
  have hz : ∀ j, j < 4 → SZ hx (7 + j) := fun j hj => (sh j hj).2.2.2.2
  refine gw_al1 K dL_law_731 ?_
  refine gw_al0 K dL_law_732 ?_
  refine gw_il3 K dL_law_733 ?_
  refine gw_iconst (v := 1) K dL_law_734 (by decide) ?_
  refine gw_iadd K dL_law_735 ?_
  refine gw_sld K S dL_law_736 (ixs (k := 1) (by omega) hL) ?_
  refine gw_al0 K dL_law_737 ?_
  refine gw_il3 K dL_law_738 ?_
  refine gw_iconst (v := 2) K dL_law_739 (by decide) ?_
  refine gw_iadd K dL_law_740 ?_
  refine gw_sld K S dL_law_741 (ixs (k := 2) (by omega) hL) ?_
  refine gw_al0 K dL_law_742 ?_
  refine gw_il3 K dL_law_743 ?_
  refine gw_iconst (v := 3) K dL_law_744 (by decide) ?_
  refine gw_iadd K dL_law_745 ?_
  refine gw_sld K S dL_law_746 (ixs (k := 3) (by omega) hL) ?_
  refine gw_al0 K dL_law_747 ?_
  refine gw_il3 K dL_law_748 ?_
  refine gw_iconst (v := 4) K dL_law_749 (by decide) ?_
  refine gw_iadd K dL_law_750 ?_
  refine gw_sld K S dL_law_751 (ixs (k := 4) (by omega) hL) ?_
  refine gw_callL K (tX6_word z.1 (z.2.1, adX, z.2.2.1, z.2.2.2.1, z.2.2.2.2.1) z.2.2.2.2.2 hx _ _ _ _ H) (i := 0) rfl (Nat.le_of_ble_eq_true rfl) fX6_word lL_97 dL_law_752 rfl clsX6 rfl (Nat.le_of_ble_eq_true rfl) hkc hkn (fun o1 hn1 q1 => ?_)
  obtain ⟨rfl, rfl⟩ := q1
  refine (show GW _ _ _ _ _ _ _ _ (.int _ :: _) from ?_)
  refine gw_pop K dL_law_755 rfl ?_
  refine gw_al2 K dL_law_756 ?_
  refine gw_al0 K dL_law_757 ?_
  refine gw_il3 K dL_law_758 ?_
  refine gw_iconst (v := 1) K dL_law_759 (by decide) ?_
  refine gw_iadd K dL_law_760 ?_
  refine gw_sld K S dL_law_761 (ixs (k := 1) (by omega) hL) ?_
  refine gw_al0 K dL_law_762 ?_
  refine gw_il3 K dL_law_763 ?_
  refine gw_iconst (v := 2) K dL_law_764 (by decide) ?_
  refine gw_iadd K dL_law_765 ?_
  refine gw_sld K S dL_law_766 (ixs (k := 2) (by omega) hL) ?_
  refine gw_al0 K dL_law_767 ?_
  refine gw_il3 K dL_law_768 ?_
  refine gw_iconst (v := 3) K dL_law_769 (by decide) ?_
  refine gw_iadd K dL_law_770 ?_
  refine gw_sld K S dL_law_771 (ixs (k := 3) (by omega) hL) ?_
  refine gw_al0 K dL_law_772 ?_
  refine gw_il3 K dL_law_773 ?_
  refine gw_iconst (v := 4) K dL_law_774 (by decide) ?_
  refine gw_iadd K dL_law_775 ?_
  refine gw_sld K S dL_law_776 (ixs (k := 4) (by omega) hL) ?_
  refine gw_callR K (tX7_word z.1 (z.2.1, adM, z.2.2.1, z.2.2.2.1, z.2.2.2.2.1) z.2.2.2.2.2 hm _ _ _ _ M) (i := 0) rfl (Nat.le_of_ble_eq_true rfl) fX7_word lL_100 dL_law_777 rfl clsX7 rfl (Nat.le_of_ble_eq_true rfl) hkc hkn (fun o2 hn2 q2 => ?_)
  obtain ⟨rfl, q2⟩ := q2
  subst q2
  refine (show GW _ _ _ _ _ _ _ _ (.int _ :: _) from ?_)
  refine gw_pop K dL_law_780 rfl ?_
  refine gw_goto (tgt := 1300) K dL_law_781 (by decide) ?_
  exact hk _ _ ⟨(jn_word v _ _ _ _ H).2, (wr_word v0.2 H _ _ _ _)⟩
set_option maxHeartbeats 8000000 in
set_option maxRecDepth 100000 in
theorem law_c20 {z : G6} {p : Program} {e : Env} {s : State} {m : MethodId} {below : List Frame} {meth : Method} {c : Code} {b Ls : Nat} {xs : Nat → Int32} {adX adM : Nat → Nat} {kc kn : Nat} (K : GOK (z, (13, 600000, 7302250), code, 4, RL) (p, e, s, m, #[Value.ref b], below, meth, c, fun q => s.heap.size ≤ q)) (S : SXP (p, e, s, m, #[Value.ref b], below, meth, c, fun q => s.heap.size ≤ q) b Ls xs) (hkc : kc ≤ 600000) (hkn : kn ≤ 7302250) (hL : Ls ≤ 2560) (i : Nat) (hi : i + 4 < Ls) {hx hm : HS} (v0 : INW hx hm) (hk : ∀ hx hm : HS, INW hx hm → GW (z, (13, 600000, 7302250), code, 4, RL) (lw_Z below #[Value.ref b] s) (p, e, s, m, #[Value.ref b], below, meth, c, fun q => s.heap.size ≤ q) (aw_w (gw_wt z adX layX) hx ++ aw_w (gw_wt z adM layM) hm) kc kn 1300 [some (.ref b), some (.ref (adX 0)), some (.ref (adM 0)), some (.int (nI i))] []) : GW (z, (13, 600000, 7302250), code, 4, RL) (lw_Z below #[Value.ref b] s) (p, e, s, m, #[Value.ref b], below, meth, c, fun q => s.heap.size ≤ q) (aw_w (gw_wt z adX layX) hx ++ aw_w (gw_wt z adM layM) hm) kc kn 784 [some (.ref b), some (.ref (adX 0)), some (.ref (adM 0)), some (.int (nI i))] [] := by
  have v : INV hx hm := v0.1
  obtain ⟨⟨N, T, Wn, H⟩, r, sh, ⟨Lt, l1, l2⟩, bb⟩ := id v
  obtain ⟨wt, ww⟩ := v0.2.at H
  have M := r.mw H
  have Z := sh.mz
  have hz : ∀ j, j < 4 → SZ hx (7 + j) := fun j hj => (sh j hj).2.2.2.2
  refine gw_al1 K dL_law_784 ?_
  refine gw_al0 K dL_law_785 ?_
  refine gw_il3 K dL_law_786 ?_
  refine gw_iconst (v := 1) K dL_law_787 (by decide) ?_
  refine gw_iadd K dL_law_788 ?_
  refine gw_sld K S dL_law_789 (ixs (k := 1) (by omega) hL) ?_
  refine gw_al0 K dL_law_790 ?_
  refine gw_il3 K dL_law_791 ?_
  refine gw_iconst (v := 2) K dL_law_792 (by decide) ?_
  refine gw_iadd K dL_law_793 ?_
  refine gw_sld K S dL_law_794 (ixs (k := 2) (by omega) hL) ?_
  refine gw_callL K (tX6_wordOf z.1 (z.2.1, adX, z.2.2.1, z.2.2.2.1, z.2.2.2.2.1) z.2.2.2.2.2 hx _ _ H) (i := 0) rfl (Nat.le_of_ble_eq_true rfl) fX6_wordOf lL_101 dL_law_795 rfl clsX6 rfl (Nat.le_of_ble_eq_true rfl) hkc hkn (fun o1 hn1 q1 => ?_)
  obtain ⟨⟨r1, rfl⟩, q1⟩ := q1
  refine (show GW _ _ _ _ _ _ _ _ (.int _ :: _) from ?_)
  refine gw_pop K dL_law_798 rfl ?_
  refine gw_al2 K dL_law_799 ?_
  refine gw_al0 K dL_law_800 ?_
  refine gw_il3 K dL_law_801 ?_
  refine gw_iconst (v := 1) K dL_law_802 (by decide) ?_
  refine gw_iadd K dL_law_803 ?_
  refine gw_sld K S dL_law_804 (ixs (k := 1) (by omega) hL) ?_
  refine gw_al0 K dL_law_805 ?_
  refine gw_il3 K dL_law_806 ?_
  refine gw_iconst (v := 2) K dL_law_807 (by decide) ?_
  refine gw_iadd K dL_law_808 ?_
  refine gw_sld K S dL_law_809 (ixs (k := 2) (by omega) hL) ?_
  refine gw_callR K (tX7_wordOf z.1 (z.2.1, adM, z.2.2.1, z.2.2.2.1, z.2.2.2.2.1) z.2.2.2.2.2 hm _ _ M) (i := 0) rfl (Nat.le_of_ble_eq_true rfl) fX7_wordOf lL_104 dL_law_810 rfl clsX7 rfl (Nat.le_of_ble_eq_true rfl) hkc hkn (fun o2 hn2 q2 => ?_)
  obtain ⟨rfl, q2⟩ := q2
  subst q2
  refine (show GW _ _ _ _ _ _ _ _ (.int _ :: _) from ?_)
  refine gw_pop K dL_law_813 rfl ?_
  refine gw_goto (tgt := 1300) K dL_law_814 (by decide) ?_
  exact hk _ _ ⟨(v.q q1), (v0.2.q q1)⟩
set_option maxHeartbeats 8000000 in
set_option maxRecDepth 100000 in
theorem law_c21 {z : G6} {p : Program} {e : Env} {s : State} {m : MethodId} {below : List Frame} {meth : Method} {c : Code} {b Ls : Nat} {xs : Nat → Int32} {adX adM : Nat → Nat} {kc kn : Nat} (K : GOK (z, (13, 600000, 7302250), code, 4, RL) (p, e, s, m, #[Value.ref b], below, meth, c, fun q => s.heap.size ≤ q)) (S : SXP (p, e, s, m, #[Value.ref b], below, meth, c, fun q => s.heap.size ≤ q) b Ls xs) (hkc : kc ≤ 600000) (hkn : kn ≤ 7302250) (hL : Ls ≤ 2560) (i : Nat) (hi : i + 4 < Ls) {hx hm : HS} (v0 : INW hx hm) (hk : ∀ hx hm : HS, INW hx hm → GW (z, (13, 600000, 7302250), code, 4, RL) (lw_Z below #[Value.ref b] s) (p, e, s, m, #[Value.ref b], below, meth, c, fun q => s.heap.size ≤ q) (aw_w (gw_wt z adX layX) hx ++ aw_w (gw_wt z adM layM) hm) kc kn 1300 [some (.ref b), some (.ref (adX 0)), some (.ref (adM 0)), some (.int (nI i))] []) : GW (z, (13, 600000, 7302250), code, 4, RL) (lw_Z below #[Value.ref b] s) (p, e, s, m, #[Value.ref b], below, meth, c, fun q => s.heap.size ≤ q) (aw_w (gw_wt z adX layX) hx ++ aw_w (gw_wt z adM layM) hm) kc kn 817 [some (.ref b), some (.ref (adX 0)), some (.ref (adM 0)), some (.int (nI i))] [] := by
  have v : INV hx hm := v0.1
  obtain ⟨⟨N, T, Wn, H⟩, r, sh, ⟨Lt, l1, l2⟩, bb⟩ := id v
  obtain ⟨wt, ww⟩ := v0.2.at H
  have M := r.mw H
  have Z := sh.mz
  have hz : ∀ j, j < 4 → SZ hx (7 + j) := fun j hj => (sh j hj).2.2.2.2
  refine gw_al1 K dL_law_817 ?_
  refine gw_al0 K dL_law_818 ?_
  refine gw_il3 K dL_law_819 ?_
  refine gw_iconst (v := 1) K dL_law_820 (by decide) ?_
  refine gw_iadd K dL_law_821 ?_
  refine gw_sld K S dL_law_822 (ixs (k := 1) (by omega) hL) ?_
  refine gw_al0 K dL_law_823 ?_
  refine gw_il3 K dL_law_824 ?_
  refine gw_iconst (v := 2) K dL_law_825 (by decide) ?_
  refine gw_iadd K dL_law_826 ?_
  refine gw_sld K S dL_law_827 (ixs (k := 2) (by omega) hL) ?_
  refine gw_callL K (tX6_weight z.1 (z.2.1, adX, z.2.2.1, z.2.2.2.1, z.2.2.2.2.1) z.2.2.2.2.2 hx _ _ H) (i := 0) rfl (Nat.le_of_ble_eq_true rfl) fX6_weight lL_105 dL_law_828 rfl clsX6 rfl (Nat.le_of_ble_eq_true rfl) hkc hkn (fun o1 hn1 q1 => ?_)
  obtain ⟨⟨r1, rfl⟩, q1⟩ := q1
  refine (show GW _ _ _ _ _ _ _ _ (.int _ :: _) from ?_)
  refine gw_pop K dL_law_831 rfl ?_
  refine gw_al2 K dL_law_832 ?_
  refine gw_al0 K dL_law_833 ?_
  refine gw_il3 K dL_law_834 ?_
  refine gw_iconst (v := 1) K dL_law_835 (by decide) ?_
  refine gw_iadd K dL_law_836 ?_
  refine gw_sld K S dL_law_837 (ixs (k := 1) (by omega) hL) ?_
  refine gw_al0 K dL_law_838 ?_
  refine gw_il3 K dL_law_839 ?_
  refine gw_iconst (v := 2) K dL_law_840 (by decide) ?_
  refine gw_iadd K dL_law_841 ?_
  refine gw_sld K S dL_law_842 (ixs (k := 2) (by omega) hL) ?_
  refine gw_callR K (tX7_weight z.1 (z.2.1, adM, z.2.2.1, z.2.2.2.1, z.2.2.2.2.1) z.2.2.2.2.2 hm _ _ M) (i := 0) rfl (Nat.le_of_ble_eq_true rfl) fX7_weight lL_108 dL_law_843 rfl clsX7 rfl (Nat.le_of_ble_eq_true rfl) hkc hkn (fun o2 hn2 q2 => ?_)
  obtain ⟨⟨r2, rfl⟩, q2⟩ := q2
  refine (show GW _ _ _ _ _ _ _ _ (.int _ :: _) from ?_)
  refine gw_pop K dL_law_846 rfl ?_
  refine gw_goto (tgt := 1300) K dL_law_847 (by decide) ?_
  exact hk _ _ ⟨((v.q q1).m q2), (v0.2.q q1)⟩
set_option maxHeartbeats 8000000 in
set_option maxRecDepth 100000 in
theorem law_c22 {z : G6} {p : Program} {e : Env} {s : State} {m : MethodId} {below : List Frame} {meth : Method} {c : Code} {b Ls : Nat} {xs : Nat → Int32} {adX adM : Nat → Nat} {kc kn : Nat} (K : GOK (z, (13, 600000, 7302250), code, 4, RL) (p, e, s, m, #[Value.ref b], below, meth, c, fun q => s.heap.size ≤ q)) (S : SXP (p, e, s, m, #[Value.ref b], below, meth, c, fun q => s.heap.size ≤ q) b Ls xs) (hkc : kc ≤ 600000) (hkn : kn ≤ 7302250) (hL : Ls ≤ 2560) (i : Nat) (hi : i + 4 < Ls) {hx hm : HS} (v0 : INW hx hm) (hk : ∀ hx hm : HS, INW hx hm → GW (z, (13, 600000, 7302250), code, 4, RL) (lw_Z below #[Value.ref b] s) (p, e, s, m, #[Value.ref b], below, meth, c, fun q => s.heap.size ≤ q) (aw_w (gw_wt z adX layX) hx ++ aw_w (gw_wt z adM layM) hm) kc kn 1300 [some (.ref b), some (.ref (adX 0)), some (.ref (adM 0)), some (.int (nI i))] []) : GW (z, (13, 600000, 7302250), code, 4, RL) (lw_Z below #[Value.ref b] s) (p, e, s, m, #[Value.ref b], below, meth, c, fun q => s.heap.size ≤ q) (aw_w (gw_wt z adX layX) hx ++ aw_w (gw_wt z adM layM) hm) kc kn 850 [some (.ref b), some (.ref (adX 0)), some (.ref (adM 0)), some (.int (nI i))] [] := by
  have v : INV hx hm := v0.1
  obtain ⟨⟨N, T, Wn, H⟩, r, sh, ⟨Lt, l1, l2⟩, bb⟩ := id v
  obtain ⟨wt, ww⟩ := v0.2.at H
  have M := r.mw H
  have Z := sh.mz
  have hz : ∀ j, j < 4 → SZ hx (7 + j) := fun j hj => (sh j hj).2.2.2.2
  refine gw_al1 K dL_law_850 ?_
  refine gw_al0 K dL_law_851 ?_
  refine gw_il3 K dL_law_852 ?_
  refine gw_iconst (v := 1) K dL_law_853 (by decide) ?_
  refine gw_iadd K dL_law_854 ?_
  refine gw_sld K S dL_law_855 (ixs (k := 1) (by omega) hL) ?_
  refine gw_callL K (tX6_sayers z.1 (z.2.1, adX, z.2.2.1, z.2.2.2.1, z.2.2.2.2.1) z.2.2.2.2.2 hx _ H) (i := 0) rfl (Nat.le_of_ble_eq_true rfl) fX6_sayers lL_109 dL_law_856 rfl clsX6 rfl (Nat.le_of_ble_eq_true rfl) hkc hkn (fun o1 hn1 q1 => ?_)
  obtain ⟨⟨r1, rfl⟩, q1⟩ := q1
  refine (show GW _ _ _ _ _ _ _ _ (.int _ :: _) from ?_)
  refine gw_pop K dL_law_859 rfl ?_
  refine gw_al2 K dL_law_860 ?_
  refine gw_al0 K dL_law_861 ?_
  refine gw_il3 K dL_law_862 ?_
  refine gw_iconst (v := 1) K dL_law_863 (by decide) ?_
  refine gw_iadd K dL_law_864 ?_
  refine gw_sld K S dL_law_865 (ixs (k := 1) (by omega) hL) ?_
  refine gw_callR K (tX7_sayers z.1 (z.2.1, adM, z.2.2.1, z.2.2.2.1, z.2.2.2.2.1) z.2.2.2.2.2 hm _ M) (i := 0) rfl (Nat.le_of_ble_eq_true rfl) fX7_sayers lL_112 dL_law_866 rfl clsX7 rfl (Nat.le_of_ble_eq_true rfl) hkc hkn (fun o2 hn2 q2 => ?_)
  obtain ⟨rfl, q2⟩ := q2
  subst q2
  refine (show GW _ _ _ _ _ _ _ _ (.int _ :: _) from ?_)
  refine gw_pop K dL_law_869 rfl ?_
  refine gw_goto (tgt := 1300) K dL_law_870 (by decide) ?_
  exact hk _ _ ⟨(v.q q1), (v0.2.q q1)⟩
set_option maxHeartbeats 8000000 in
set_option maxRecDepth 100000 in
theorem law_c23 {z : G6} {p : Program} {e : Env} {s : State} {m : MethodId} {below : List Frame} {meth : Method} {c : Code} {b Ls : Nat} {xs : Nat → Int32} {adX adM : Nat → Nat} {kc kn : Nat} (K : GOK (z, (13, 600000, 7302250), code, 4, RL) (p, e, s, m, #[Value.ref b], below, meth, c, fun q => s.heap.size ≤ q)) (S : SXP (p, e, s, m, #[Value.ref b], below, meth, c, fun q => s.heap.size ≤ q) b Ls xs) (hkc : kc ≤ 600000) (hkn : kn ≤ 7302250) (hL : Ls ≤ 2560) (i : Nat) (hi : i + 4 < Ls) {hx hm : HS} (v0 : INW hx hm) (hk : ∀ hx hm : HS, INW hx hm → GW (z, (13, 600000, 7302250), code, 4, RL) (lw_Z below #[Value.ref b] s) (p, e, s, m, #[Value.ref b], below, meth, c, fun q => s.heap.size ≤ q) (aw_w (gw_wt z adX layX) hx ++ aw_w (gw_wt z adM layM) hm) kc kn 1300 [some (.ref b), some (.ref (adX 0)), some (.ref (adM 0)), some (.int (nI i))] []) : GW (z, (13, 600000, 7302250), code, 4, RL) (lw_Z below #[Value.ref b] s) (p, e, s, m, #[Value.ref b], below, meth, c, fun q => s.heap.size ≤ q) (aw_w (gw_wt z adX layX) hx ++ aw_w (gw_wt z adM layM) hm) kc kn 873 [some (.ref b), some (.ref (adX 0)), some (.ref (adM 0)), some (.int (nI i))] [] := by
  have v : INV hx hm := v0.1
  obtain ⟨⟨N, T, Wn, H⟩, r, sh, ⟨Lt, l1, l2⟩, bb⟩ := id v
  obtain ⟨wt, ww⟩ := v0.2.at H
  have M := r.mw H
  have Z := sh.mz
  have hz : ∀ j, j < 4 → SZ hx (7 + j) := fun j hj => (sh j hj).2.2.2.2
  refine gw_al1 K dL_law_873 ?_
  refine gw_al0 K dL_law_874 ?_
  refine gw_il3 K dL_law_875 ?_
  refine gw_iconst (v := 1) K dL_law_876 (by decide) ?_
  refine gw_iadd K dL_law_877 ?_
  refine gw_sld K S dL_law_878 (ixs (k := 1) (by omega) hL) ?_
  refine gw_al0 K dL_law_879 ?_
  refine gw_il3 K dL_law_880 ?_
  refine gw_iconst (v := 2) K dL_law_881 (by decide) ?_
  refine gw_iadd K dL_law_882 ?_
  refine gw_sld K S dL_law_883 (ixs (k := 2) (by omega) hL) ?_
  refine gw_callL K (tX6_mark z.1 (z.2.1, adX, z.2.2.1, z.2.2.2.1, z.2.2.2.2.1) z.2.2.2.2.2 hx _ _ H) (i := 0) rfl (Nat.le_of_ble_eq_true rfl) fX6_mark lL_113 dL_law_884 rfl clsX6 rfl (Nat.le_of_ble_eq_true rfl) hkc hkn (fun o1 hn1 q1 => ?_)
  obtain ⟨⟨r1, rfl⟩, q1⟩ := q1
  refine (show GW _ _ _ _ _ _ _ _ (.int _ :: _) from ?_)
  refine gw_pop K dL_law_887 rfl ?_
  refine gw_al2 K dL_law_888 ?_
  refine gw_al0 K dL_law_889 ?_
  refine gw_il3 K dL_law_890 ?_
  refine gw_iconst (v := 1) K dL_law_891 (by decide) ?_
  refine gw_iadd K dL_law_892 ?_
  refine gw_sld K S dL_law_893 (ixs (k := 1) (by omega) hL) ?_
  refine gw_al0 K dL_law_894 ?_
  refine gw_il3 K dL_law_895 ?_
  refine gw_iconst (v := 2) K dL_law_896 (by decide) ?_
  refine gw_iadd K dL_law_897 ?_
  refine gw_sld K S dL_law_898 (ixs (k := 2) (by omega) hL) ?_
  refine gw_callR K (tX7_mark z.1 (z.2.1, adM, z.2.2.1, z.2.2.2.1, z.2.2.2.2.1) z.2.2.2.2.2 hm _ _ M) (i := 0) rfl (Nat.le_of_ble_eq_true rfl) fX7_mark lL_116 dL_law_899 rfl clsX7 rfl (Nat.le_of_ble_eq_true rfl) hkc hkn (fun o2 hn2 q2 => ?_)
  obtain ⟨⟨r2, rfl⟩, q2⟩ := q2
  refine (show GW _ _ _ _ _ _ _ _ (.int _ :: _) from ?_)
  refine gw_pop K dL_law_902 rfl ?_
  refine gw_goto (tgt := 1300) K dL_law_903 (by decide) ?_
  exact hk _ _ ⟨((v.q q1).m q2), (v0.2.q q1)⟩
set_option maxHeartbeats 8000000 in
set_option maxRecDepth 100000 in
theorem law_c24 {z : G6} {p : Program} {e : Env} {s : State} {m : MethodId} {below : List Frame} {meth : Method} {c : Code} {b Ls : Nat} {xs : Nat → Int32} {adX adM : Nat → Nat} {kc kn : Nat} (K : GOK (z, (13, 600000, 7302250), code, 4, RL) (p, e, s, m, #[Value.ref b], below, meth, c, fun q => s.heap.size ≤ q)) (S : SXP (p, e, s, m, #[Value.ref b], below, meth, c, fun q => s.heap.size ≤ q) b Ls xs) (hkc : kc ≤ 600000) (hkn : kn ≤ 7302250) (hL : Ls ≤ 2560) (i : Nat) (hi : i + 4 < Ls) {hx hm : HS} (v0 : INW hx hm) (hk : ∀ hx hm : HS, INW hx hm → GW (z, (13, 600000, 7302250), code, 4, RL) (lw_Z below #[Value.ref b] s) (p, e, s, m, #[Value.ref b], below, meth, c, fun q => s.heap.size ≤ q) (aw_w (gw_wt z adX layX) hx ++ aw_w (gw_wt z adM layM) hm) kc kn 1300 [some (.ref b), some (.ref (adX 0)), some (.ref (adM 0)), some (.int (nI i))] []) : GW (z, (13, 600000, 7302250), code, 4, RL) (lw_Z below #[Value.ref b] s) (p, e, s, m, #[Value.ref b], below, meth, c, fun q => s.heap.size ≤ q) (aw_w (gw_wt z adX layX) hx ++ aw_w (gw_wt z adM layM) hm) kc kn 906 [some (.ref b), some (.ref (adX 0)), some (.ref (adM 0)), some (.int (nI i))] [] := by
  have v : INV hx hm := v0.1
  obtain ⟨⟨N, T, Wn, H⟩, r, sh, ⟨Lt, l1, l2⟩, bb⟩ := id v
  obtain ⟨wt, ww⟩ := v0.2.at H
  have M := r.mw H
  have Z := sh.mz
  have hz : ∀ j, j < 4 → SZ hx (7 + j) := fun j hj => (sh j hj).2.2.2.2
  refine gw_al1 K dL_law_906 ?_
  refine gw_al0 K dL_law_907 ?_
  refine gw_il3 K dL_law_908 ?_
  refine gw_iconst (v := 1) K dL_law_909 (by decide) ?_
  refine gw_iadd K dL_law_910 ?_
  refine gw_sld K S dL_law_911 (ixs (k := 1) (by omega) hL) ?_
  refine gw_al0 K dL_law_912 ?_
  refine gw_il3 K dL_law_913 ?_
  refine gw_iconst (v := 2) K dL_law_914 (by decide) ?_
  refine gw_iadd K dL_law_915 ?_
  refine gw_sld K S dL_law_916 (ixs (k := 2) (by omega) hL) ?_
  refine gw_al0 K dL_law_917 ?_
  refine gw_il3 K dL_law_918 ?_
  refine gw_iconst (v := 3) K dL_law_919 (by decide) ?_
  refine gw_iadd K dL_law_920 ?_
  refine gw_sld K S dL_law_921 (ixs (k := 3) (by omega) hL) ?_
  refine gw_callL K (tX6_span z.1 (z.2.1, adX, z.2.2.1, z.2.2.2.1, z.2.2.2.2.1) z.2.2.2.2.2 hx _ _ _ H) (i := 0) rfl (Nat.le_of_ble_eq_true rfl) fX6_span lL_117 dL_law_922 rfl clsX6 rfl (Nat.le_of_ble_eq_true rfl) hkc hkn (fun o1 hn1 q1 => ?_)
  obtain ⟨⟨r1, rfl⟩, q1⟩ := q1
  refine (show GW _ _ _ _ _ _ _ _ (.int _ :: _) from ?_)
  refine gw_pop K dL_law_925 rfl ?_
  refine gw_al2 K dL_law_926 ?_
  refine gw_al0 K dL_law_927 ?_
  refine gw_il3 K dL_law_928 ?_
  refine gw_iconst (v := 1) K dL_law_929 (by decide) ?_
  refine gw_iadd K dL_law_930 ?_
  refine gw_sld K S dL_law_931 (ixs (k := 1) (by omega) hL) ?_
  refine gw_al0 K dL_law_932 ?_
  refine gw_il3 K dL_law_933 ?_
  refine gw_iconst (v := 2) K dL_law_934 (by decide) ?_
  refine gw_iadd K dL_law_935 ?_
  refine gw_sld K S dL_law_936 (ixs (k := 2) (by omega) hL) ?_
  refine gw_al0 K dL_law_937 ?_
  refine gw_il3 K dL_law_938 ?_
  refine gw_iconst (v := 3) K dL_law_939 (by decide) ?_
  refine gw_iadd K dL_law_940 ?_
  refine gw_sld K S dL_law_941 (ixs (k := 3) (by omega) hL) ?_
  refine gw_callR K (tX7_span z.1 (z.2.1, adM, z.2.2.1, z.2.2.2.1, z.2.2.2.2.1) z.2.2.2.2.2 hm _ _ _ M) (i := 0) rfl (Nat.le_of_ble_eq_true rfl) fX7_span lL_121 dL_law_942 rfl clsX7 rfl (Nat.le_of_ble_eq_true rfl) hkc hkn (fun o2 hn2 q2 => ?_)
  obtain ⟨⟨r2, rfl⟩, q2⟩ := q2
  refine (show GW _ _ _ _ _ _ _ _ (.int _ :: _) from ?_)
  refine gw_pop K dL_law_945 rfl ?_
  refine gw_goto (tgt := 1300) K dL_law_946 (by decide) ?_
  exact hk _ _ ⟨((v.q q1).m q2), (v0.2.q q1)⟩
set_option maxHeartbeats 8000000 in
set_option maxRecDepth 100000 in
theorem law_c25 {z : G6} {p : Program} {e : Env} {s : State} {m : MethodId} {below : List Frame} {meth : Method} {c : Code} {b Ls : Nat} {xs : Nat → Int32} {adX adM : Nat → Nat} {kc kn : Nat} (K : GOK (z, (13, 600000, 7302250), code, 4, RL) (p, e, s, m, #[Value.ref b], below, meth, c, fun q => s.heap.size ≤ q)) (S : SXP (p, e, s, m, #[Value.ref b], below, meth, c, fun q => s.heap.size ≤ q) b Ls xs) (hkc : kc ≤ 600000) (hkn : kn ≤ 7302250) (hL : Ls ≤ 2560) (i : Nat) (hi : i + 4 < Ls) {hx hm : HS} (v0 : INW hx hm) (hk : ∀ hx hm : HS, INW hx hm → GW (z, (13, 600000, 7302250), code, 4, RL) (lw_Z below #[Value.ref b] s) (p, e, s, m, #[Value.ref b], below, meth, c, fun q => s.heap.size ≤ q) (aw_w (gw_wt z adX layX) hx ++ aw_w (gw_wt z adM layM) hm) kc kn 1300 [some (.ref b), some (.ref (adX 0)), some (.ref (adM 0)), some (.int (nI i))] []) : GW (z, (13, 600000, 7302250), code, 4, RL) (lw_Z below #[Value.ref b] s) (p, e, s, m, #[Value.ref b], below, meth, c, fun q => s.heap.size ≤ q) (aw_w (gw_wt z adX layX) hx ++ aw_w (gw_wt z adM layM) hm) kc kn 949 [some (.ref b), some (.ref (adX 0)), some (.ref (adM 0)), some (.int (nI i))] [] := by
  have v : INV hx hm := v0.1
  obtain ⟨⟨N, T, Wn, H⟩, r, sh, ⟨Lt, l1, l2⟩, bb⟩ := id v
  obtain ⟨wt, ww⟩ := v0.2.at H
  have M := r.mw H
  have Z := sh.mz
  have hz : ∀ j, j < 4 → SZ hx (7 + j) := fun j hj => (sh j hj).2.2.2.2
  refine gw_al1 K dL_law_949 ?_
  refine gw_al0 K dL_law_950 ?_
  refine gw_il3 K dL_law_951 ?_
  refine gw_iconst (v := 1) K dL_law_952 (by decide) ?_
  refine gw_iadd K dL_law_953 ?_
  refine gw_sld K S dL_law_954 (ixs (k := 1) (by omega) hL) ?_
  refine gw_al0 K dL_law_955 ?_
  refine gw_il3 K dL_law_956 ?_
  refine gw_iconst (v := 2) K dL_law_957 (by decide) ?_
  refine gw_iadd K dL_law_958 ?_
  refine gw_sld K S dL_law_959 (ixs (k := 2) (by omega) hL) ?_
  refine gw_callL K (tX6_ring z.1 (z.2.1, adX, z.2.2.1, z.2.2.2.1, z.2.2.2.2.1) z.2.2.2.2.2 hx _ _ H) (i := 0) rfl (Nat.le_of_ble_eq_true rfl) fX6_ring lL_122 dL_law_960 rfl clsX6 rfl (Nat.le_of_ble_eq_true rfl) hkc hkn (fun o1 hn1 q1 => ?_)
  obtain ⟨⟨r1, rfl⟩, q1⟩ := q1
  refine (show GW _ _ _ _ _ _ _ _ (.int _ :: _) from ?_)
  refine gw_pop K dL_law_963 rfl ?_
  refine gw_al2 K dL_law_964 ?_
  refine gw_al0 K dL_law_965 ?_
  refine gw_il3 K dL_law_966 ?_
  refine gw_iconst (v := 1) K dL_law_967 (by decide) ?_
  refine gw_iadd K dL_law_968 ?_
  refine gw_sld K S dL_law_969 (ixs (k := 1) (by omega) hL) ?_
  refine gw_al0 K dL_law_970 ?_
  refine gw_il3 K dL_law_971 ?_
  refine gw_iconst (v := 2) K dL_law_972 (by decide) ?_
  refine gw_iadd K dL_law_973 ?_
  refine gw_sld K S dL_law_974 (ixs (k := 2) (by omega) hL) ?_
  refine gw_callR K (tX7_ring z.1 (z.2.1, adM, z.2.2.1, z.2.2.2.1, z.2.2.2.2.1) z.2.2.2.2.2 hm _ _ M) (i := 0) rfl (Nat.le_of_ble_eq_true rfl) fX7_ring lL_125 dL_law_975 rfl clsX7 rfl (Nat.le_of_ble_eq_true rfl) hkc hkn (fun o2 hn2 q2 => ?_)
  obtain ⟨rfl, q2⟩ := q2
  subst q2
  refine (show GW _ _ _ _ _ _ _ _ (.int _ :: _) from ?_)
  refine gw_pop K dL_law_978 rfl ?_
  refine gw_goto (tgt := 1300) K dL_law_979 (by decide) ?_
  exact hk _ _ ⟨(v.q q1), (v0.2.q q1)⟩
set_option maxHeartbeats 8000000 in
set_option maxRecDepth 100000 in
theorem law_c26 {z : G6} {p : Program} {e : Env} {s : State} {m : MethodId} {below : List Frame} {meth : Method} {c : Code} {b Ls : Nat} {xs : Nat → Int32} {adX adM : Nat → Nat} {kc kn : Nat} (K : GOK (z, (13, 600000, 7302250), code, 4, RL) (p, e, s, m, #[Value.ref b], below, meth, c, fun q => s.heap.size ≤ q)) (S : SXP (p, e, s, m, #[Value.ref b], below, meth, c, fun q => s.heap.size ≤ q) b Ls xs) (hkc : kc ≤ 600000) (hkn : kn ≤ 7302250) (hL : Ls ≤ 2560) (i : Nat) (hi : i + 4 < Ls) {hx hm : HS} (v0 : INW hx hm) (hk : ∀ hx hm : HS, INW hx hm → GW (z, (13, 600000, 7302250), code, 4, RL) (lw_Z below #[Value.ref b] s) (p, e, s, m, #[Value.ref b], below, meth, c, fun q => s.heap.size ≤ q) (aw_w (gw_wt z adX layX) hx ++ aw_w (gw_wt z adM layM) hm) kc kn 1300 [some (.ref b), some (.ref (adX 0)), some (.ref (adM 0)), some (.int (nI i))] []) : GW (z, (13, 600000, 7302250), code, 4, RL) (lw_Z below #[Value.ref b] s) (p, e, s, m, #[Value.ref b], below, meth, c, fun q => s.heap.size ≤ q) (aw_w (gw_wt z adX layX) hx ++ aw_w (gw_wt z adM layM) hm) kc kn 982 [some (.ref b), some (.ref (adX 0)), some (.ref (adM 0)), some (.int (nI i))] [] := by
  have v : INV hx hm := v0.1
  obtain ⟨⟨N, T, Wn, H⟩, r, sh, ⟨Lt, l1, l2⟩, bb⟩ := id v
  obtain ⟨wt, ww⟩ := v0.2.at H
  have M := r.mw H
  have Z := sh.mz
  have hz : ∀ j, j < 4 → SZ hx (7 + j) := fun j hj => (sh j hj).2.2.2.2
  refine gw_al1 K dL_law_982 ?_
  refine gw_al0 K dL_law_983 ?_
  refine gw_il3 K dL_law_984 ?_
  refine gw_iconst (v := 1) K dL_law_985 (by decide) ?_
  refine gw_iadd K dL_law_986 ?_
  refine gw_sld K S dL_law_987 (ixs (k := 1) (by omega) hL) ?_
  refine gw_al0 K dL_law_988 ?_
  refine gw_il3 K dL_law_989 ?_
  refine gw_iconst (v := 2) K dL_law_990 (by decide) ?_
  refine gw_iadd K dL_law_991 ?_
  refine gw_sld K S dL_law_992 (ixs (k := 2) (by omega) hL) ?_
  refine gw_callL K (tX6_odds z.1 (z.2.1, adX, z.2.2.1, z.2.2.2.1, z.2.2.2.2.1) z.2.2.2.2.2 hx _ _ H) (i := 0) rfl (Nat.le_of_ble_eq_true rfl) fX6_odds lL_126 dL_law_993 rfl clsX6 rfl (Nat.le_of_ble_eq_true rfl) hkc hkn (fun o1 hn1 q1 => ?_)
  obtain ⟨⟨r1, rfl⟩, q1⟩ := q1
  refine (show GW _ _ _ _ _ _ _ _ (.long _ :: _) from ?_)
  refine gw_pop2 K dL_law_996 rfl ?_
  refine gw_al2 K dL_law_997 ?_
  refine gw_al0 K dL_law_998 ?_
  refine gw_il3 K dL_law_999 ?_
  refine gw_iconst (v := 1) K dL_law_1000 (by decide) ?_
  refine gw_iadd K dL_law_1001 ?_
  refine gw_sld K S dL_law_1002 (ixs (k := 1) (by omega) hL) ?_
  refine gw_al0 K dL_law_1003 ?_
  refine gw_il3 K dL_law_1004 ?_
  refine gw_iconst (v := 2) K dL_law_1005 (by decide) ?_
  refine gw_iadd K dL_law_1006 ?_
  refine gw_sld K S dL_law_1007 (ixs (k := 2) (by omega) hL) ?_
  refine gw_callR K (tX7_odds z.1 (z.2.1, adM, z.2.2.1, z.2.2.2.1, z.2.2.2.2.1) z.2.2.2.2.2 hm _ _ M) (i := 0) rfl (Nat.le_of_ble_eq_true rfl) fX7_odds lL_130 dL_law_1008 rfl clsX7 rfl (Nat.le_of_ble_eq_true rfl) hkc hkn (fun o2 hn2 q2 => ?_)
  obtain ⟨⟨r2, rfl⟩, q2⟩ := q2
  refine (show GW _ _ _ _ _ _ _ _ (.long _ :: _) from ?_)
  refine gw_pop2 K dL_law_1011 rfl ?_
  refine gw_goto (tgt := 1300) K dL_law_1012 (by decide) ?_
  exact hk _ _ ⟨((v.q q1).m q2), (v0.2.q q1)⟩
set_option maxHeartbeats 8000000 in
set_option maxRecDepth 100000 in
theorem law_c27 {z : G6} {p : Program} {e : Env} {s : State} {m : MethodId} {below : List Frame} {meth : Method} {c : Code} {b Ls : Nat} {xs : Nat → Int32} {adX adM : Nat → Nat} {kc kn : Nat} (K : GOK (z, (13, 600000, 7302250), code, 4, RL) (p, e, s, m, #[Value.ref b], below, meth, c, fun q => s.heap.size ≤ q)) (S : SXP (p, e, s, m, #[Value.ref b], below, meth, c, fun q => s.heap.size ≤ q) b Ls xs) (hkc : kc ≤ 600000) (hkn : kn ≤ 7302250) (hL : Ls ≤ 2560) (i : Nat) (hi : i + 4 < Ls) {hx hm : HS} (v0 : INW hx hm) (hk : ∀ hx hm : HS, INW hx hm → GW (z, (13, 600000, 7302250), code, 4, RL) (lw_Z below #[Value.ref b] s) (p, e, s, m, #[Value.ref b], below, meth, c, fun q => s.heap.size ≤ q) (aw_w (gw_wt z adX layX) hx ++ aw_w (gw_wt z adM layM) hm) kc kn 1300 [some (.ref b), some (.ref (adX 0)), some (.ref (adM 0)), some (.int (nI i))] []) : GW (z, (13, 600000, 7302250), code, 4, RL) (lw_Z below #[Value.ref b] s) (p, e, s, m, #[Value.ref b], below, meth, c, fun q => s.heap.size ≤ q) (aw_w (gw_wt z adX layX) hx ++ aw_w (gw_wt z adM layM) hm) kc kn 1015 [some (.ref b), some (.ref (adX 0)), some (.ref (adM 0)), some (.int (nI i))] [] := by
  have v : INV hx hm := v0.1
  obtain ⟨⟨N, T, Wn, H⟩, r, sh, ⟨Lt, l1, l2⟩, bb⟩ := id v
  obtain ⟨wt, ww⟩ := v0.2.at H
  have M := r.mw H
  have Z := sh.mz
  have hz : ∀ j, j < 4 → SZ hx (7 + j) := fun j hj => (sh j hj).2.2.2.2
  refine gw_al1 K dL_law_1015 ?_
  refine gw_al0 K dL_law_1016 ?_
  refine gw_il3 K dL_law_1017 ?_
  refine gw_iconst (v := 1) K dL_law_1018 (by decide) ?_
  refine gw_iadd K dL_law_1019 ?_
  refine gw_sld K S dL_law_1020 (ixs (k := 1) (by omega) hL) ?_
  refine gw_callL K (eX6_oddest z.1 (z.2.1, adX, z.2.2.1, z.2.2.2.1, z.2.2.2.2.1) z.2.2.2.2.2 hx _ H ww) (i := 0) rfl (Nat.le_of_ble_eq_true rfl) fX6_oddest lL_131 dL_law_1021 rfl clsX6 rfl (Nat.le_of_ble_eq_true rfl) hkc hkn (fun o1 hn1 q1 => ?_)
  obtain ⟨rfl, q1⟩ := q1
  subst q1
  refine (show GW _ _ _ _ _ _ _ _ (.long _ :: _) from ?_)
  refine gw_al2 K dL_law_1024 ?_
  refine gw_al0 K dL_law_1025 ?_
  refine gw_il3 K dL_law_1026 ?_
  refine gw_iconst (v := 1) K dL_law_1027 (by decide) ?_
  refine gw_iadd K dL_law_1028 ?_
  refine gw_sld K S dL_law_1029 (ixs (k := 1) (by omega) hL) ?_
  refine gw_callR K (eX7_oddest z.1 (z.2.1, adM, z.2.2.1, z.2.2.2.1, z.2.2.2.2.1) z.2.2.2.2.2 hm _ M) (i := 0) rfl (Nat.le_of_ble_eq_true rfl) fX7_oddest lL_135 dL_law_1030 rfl clsX7 rfl (Nat.le_of_ble_eq_true rfl) hkc hkn (fun o2 hn2 q2 => ?_)
  obtain ⟨rfl, q2⟩ := q2
  refine (show GW _ _ _ _ _ _ _ _ (.long _ :: _) from ?_)
  refine gw_lcmp K dL_law_1033 ?_
  refine gw_if_eq (tgt := 1300) K dL_law_1034 (by decide) (fun _ => ?_) (fun q => absurd ((lg_cmp_eq _ _).mpr (ods_eq r _ N Wn)) q)
  exact hk _ _ ⟨(v.m q2), v0.2⟩
set_option maxHeartbeats 8000000 in
set_option maxRecDepth 100000 in
theorem law_c28 {z : G6} {p : Program} {e : Env} {s : State} {m : MethodId} {below : List Frame} {meth : Method} {c : Code} {b Ls : Nat} {xs : Nat → Int32} {adX adM : Nat → Nat} {kc kn : Nat} (K : GOK (z, (13, 600000, 7302250), code, 4, RL) (p, e, s, m, #[Value.ref b], below, meth, c, fun q => s.heap.size ≤ q)) (S : SXP (p, e, s, m, #[Value.ref b], below, meth, c, fun q => s.heap.size ≤ q) b Ls xs) (hkc : kc ≤ 600000) (hkn : kn ≤ 7302250) (hL : Ls ≤ 2560) (i : Nat) (hi : i + 4 < Ls) {hx hm : HS} (v0 : INW hx hm) (hk : ∀ hx hm : HS, INW hx hm → GW (z, (13, 600000, 7302250), code, 4, RL) (lw_Z below #[Value.ref b] s) (p, e, s, m, #[Value.ref b], below, meth, c, fun q => s.heap.size ≤ q) (aw_w (gw_wt z adX layX) hx ++ aw_w (gw_wt z adM layM) hm) kc kn 1300 [some (.ref b), some (.ref (adX 0)), some (.ref (adM 0)), some (.int (nI i))] []) : GW (z, (13, 600000, 7302250), code, 4, RL) (lw_Z below #[Value.ref b] s) (p, e, s, m, #[Value.ref b], below, meth, c, fun q => s.heap.size ≤ q) (aw_w (gw_wt z adX layX) hx ++ aw_w (gw_wt z adM layM) hm) kc kn 1039 [some (.ref b), some (.ref (adX 0)), some (.ref (adM 0)), some (.int (nI i))] [] := by
  have v : INV hx hm := v0.1
  obtain ⟨⟨N, T, Wn, H⟩, r, sh, ⟨Lt, l1, l2⟩, bb⟩ := id v
  obtain ⟨wt, ww⟩ := v0.2.at H
  have M := r.mw H
  have Z := sh.mz
  have hz : ∀ j, j < 4 → SZ hx (7 + j) := fun j hj => (sh j hj).2.2.2.2
  refine gw_al1 K dL_law_1039 ?_
  refine gw_al0 K dL_law_1040 ?_
  refine gw_il3 K dL_law_1041 ?_
  refine gw_iconst (v := 1) K dL_law_1042 (by decide) ?_
  refine gw_iadd K dL_law_1043 ?_
  refine gw_sld K S dL_law_1044 (ixs (k := 1) (by omega) hL) ?_
  refine gw_al0 K dL_law_1045 ?_
  refine gw_il3 K dL_law_1046 ?_
  refine gw_iconst (v := 2) K dL_law_1047 (by decide) ?_
  refine gw_iadd K dL_law_1048 ?_
  refine gw_sld K S dL_law_1049 (ixs (k := 2) (by omega) hL) ?_
  refine gw_al0 K dL_law_1050 ?_
  refine gw_il3 K dL_law_1051 ?_
  refine gw_iconst (v := 3) K dL_law_1052 (by decide) ?_
  refine gw_iadd K dL_law_1053 ?_
  refine gw_sld K S dL_law_1054 (ixs (k := 3) (by omega) hL) ?_
  refine gw_callL K (tX6_gain z.1 (z.2.1, adX, z.2.2.1, z.2.2.2.1, z.2.2.2.2.1) z.2.2.2.2.2 hx _ _ _ H) (i := 0) rfl (Nat.le_of_ble_eq_true rfl) fX6_gain lL_136 dL_law_1055 rfl clsX6 rfl (Nat.le_of_ble_eq_true rfl) hkc hkn (fun o1 hn1 q1 => ?_)
  obtain ⟨⟨r1, rfl⟩, q1⟩ := q1
  refine (show GW _ _ _ _ _ _ _ _ (.int _ :: _) from ?_)
  refine gw_pop K dL_law_1058 rfl ?_
  refine gw_al2 K dL_law_1059 ?_
  refine gw_al0 K dL_law_1060 ?_
  refine gw_il3 K dL_law_1061 ?_
  refine gw_iconst (v := 1) K dL_law_1062 (by decide) ?_
  refine gw_iadd K dL_law_1063 ?_
  refine gw_sld K S dL_law_1064 (ixs (k := 1) (by omega) hL) ?_
  refine gw_al0 K dL_law_1065 ?_
  refine gw_il3 K dL_law_1066 ?_
  refine gw_iconst (v := 2) K dL_law_1067 (by decide) ?_
  refine gw_iadd K dL_law_1068 ?_
  refine gw_sld K S dL_law_1069 (ixs (k := 2) (by omega) hL) ?_
  refine gw_al0 K dL_law_1070 ?_
  refine gw_il3 K dL_law_1071 ?_
  refine gw_iconst (v := 3) K dL_law_1072 (by decide) ?_
  refine gw_iadd K dL_law_1073 ?_
  refine gw_sld K S dL_law_1074 (ixs (k := 3) (by omega) hL) ?_
  refine gw_callR K (tX7_gain z.1 (z.2.1, adM, z.2.2.1, z.2.2.2.1, z.2.2.2.2.1) z.2.2.2.2.2 hm _ _ _ M) (i := 0) rfl (Nat.le_of_ble_eq_true rfl) fX7_gain lL_139 dL_law_1075 rfl clsX7 rfl (Nat.le_of_ble_eq_true rfl) hkc hkn (fun o2 hn2 q2 => ?_)
  obtain ⟨⟨r2, rfl⟩, q2⟩ := q2
  refine (show GW _ _ _ _ _ _ _ _ (.int _ :: _) from ?_)
  refine gw_pop K dL_law_1078 rfl ?_
  refine gw_goto (tgt := 1300) K dL_law_1079 (by decide) ?_
  exact hk _ _ ⟨((v.q q1).m q2), (v0.2.q q1)⟩
set_option maxHeartbeats 8000000 in
set_option maxRecDepth 100000 in
theorem law_c29 {z : G6} {p : Program} {e : Env} {s : State} {m : MethodId} {below : List Frame} {meth : Method} {c : Code} {b Ls : Nat} {xs : Nat → Int32} {adX adM : Nat → Nat} {kc kn : Nat} (K : GOK (z, (13, 600000, 7302250), code, 4, RL) (p, e, s, m, #[Value.ref b], below, meth, c, fun q => s.heap.size ≤ q)) (S : SXP (p, e, s, m, #[Value.ref b], below, meth, c, fun q => s.heap.size ≤ q) b Ls xs) (hkc : kc ≤ 600000) (hkn : kn ≤ 7302250) (hL : Ls ≤ 2560) (i : Nat) (hi : i + 4 < Ls) {hx hm : HS} (v0 : INW hx hm) (hk : ∀ hx hm : HS, INW hx hm → GW (z, (13, 600000, 7302250), code, 4, RL) (lw_Z below #[Value.ref b] s) (p, e, s, m, #[Value.ref b], below, meth, c, fun q => s.heap.size ≤ q) (aw_w (gw_wt z adX layX) hx ++ aw_w (gw_wt z adM layM) hm) kc kn 1300 [some (.ref b), some (.ref (adX 0)), some (.ref (adM 0)), some (.int (nI i))] []) : GW (z, (13, 600000, 7302250), code, 4, RL) (lw_Z below #[Value.ref b] s) (p, e, s, m, #[Value.ref b], below, meth, c, fun q => s.heap.size ≤ q) (aw_w (gw_wt z adX layX) hx ++ aw_w (gw_wt z adM layM) hm) kc kn 1082 [some (.ref b), some (.ref (adX 0)), some (.ref (adM 0)), some (.int (nI i))] [] := by
  have v : INV hx hm := v0.1
  obtain ⟨⟨N, T, Wn, H⟩, r, sh, ⟨Lt, l1, l2⟩, bb⟩ := id v
  obtain ⟨wt, ww⟩ := v0.2.at H
  have M := r.mw H
  have Z := sh.mz
  have hz : ∀ j, j < 4 → SZ hx (7 + j) := fun j hj => (sh j hj).2.2.2.2
  refine gw_al1 K dL_law_1082 ?_
  refine gw_al0 K dL_law_1083 ?_
  refine gw_il3 K dL_law_1084 ?_
  refine gw_iconst (v := 1) K dL_law_1085 (by decide) ?_
  refine gw_iadd K dL_law_1086 ?_
  refine gw_sld K S dL_law_1087 (ixs (k := 1) (by omega) hL) ?_
  refine gw_al0 K dL_law_1088 ?_
  refine gw_il3 K dL_law_1089 ?_
  refine gw_iconst (v := 2) K dL_law_1090 (by decide) ?_
  refine gw_iadd K dL_law_1091 ?_
  refine gw_sld K S dL_law_1092 (ixs (k := 2) (by omega) hL) ?_
  refine gw_al0 K dL_law_1093 ?_
  refine gw_il3 K dL_law_1094 ?_
  refine gw_iconst (v := 3) K dL_law_1095 (by decide) ?_
  refine gw_iadd K dL_law_1096 ?_
  refine gw_sld K S dL_law_1097 (ixs (k := 3) (by omega) hL) ?_
  refine gw_callL K (tX6_best z.1 (z.2.1, adX, z.2.2.1, z.2.2.2.1, z.2.2.2.2.1) z.2.2.2.2.2 hx _ _ _ H) (i := 0) rfl (Nat.le_of_ble_eq_true rfl) fX6_best lL_140 dL_law_1098 rfl clsX6 rfl (Nat.le_of_ble_eq_true rfl) hkc hkn (fun o1 hn1 q1 => ?_)
  obtain ⟨⟨r1, rfl⟩, q1⟩ := q1
  refine (show GW _ _ _ _ _ _ _ _ (.int _ :: _) from ?_)
  refine gw_pop K dL_law_1101 rfl ?_
  refine gw_al2 K dL_law_1102 ?_
  refine gw_al0 K dL_law_1103 ?_
  refine gw_il3 K dL_law_1104 ?_
  refine gw_iconst (v := 1) K dL_law_1105 (by decide) ?_
  refine gw_iadd K dL_law_1106 ?_
  refine gw_sld K S dL_law_1107 (ixs (k := 1) (by omega) hL) ?_
  refine gw_al0 K dL_law_1108 ?_
  refine gw_il3 K dL_law_1109 ?_
  refine gw_iconst (v := 2) K dL_law_1110 (by decide) ?_
  refine gw_iadd K dL_law_1111 ?_
  refine gw_sld K S dL_law_1112 (ixs (k := 2) (by omega) hL) ?_
  refine gw_al0 K dL_law_1113 ?_
  refine gw_il3 K dL_law_1114 ?_
  refine gw_iconst (v := 3) K dL_law_1115 (by decide) ?_
  refine gw_iadd K dL_law_1116 ?_
  refine gw_sld K S dL_law_1117 (ixs (k := 3) (by omega) hL) ?_
  refine gw_callR K (tX7_best z.1 (z.2.1, adM, z.2.2.1, z.2.2.2.1, z.2.2.2.2.1) z.2.2.2.2.2 hm _ _ _ M) (i := 0) rfl (Nat.le_of_ble_eq_true rfl) fX7_best lL_143 dL_law_1118 rfl clsX7 rfl (Nat.le_of_ble_eq_true rfl) hkc hkn (fun o2 hn2 q2 => ?_)
  obtain ⟨⟨r2, rfl⟩, q2⟩ := q2
  refine (show GW _ _ _ _ _ _ _ _ (.int _ :: _) from ?_)
  refine gw_pop K dL_law_1121 rfl ?_
  refine gw_goto (tgt := 1300) K dL_law_1122 (by decide) ?_
  exact hk _ _ ⟨((v.q q1).m q2), (v0.2.q q1)⟩
set_option maxHeartbeats 8000000 in
set_option maxRecDepth 100000 in
theorem law_c30 {z : G6} {p : Program} {e : Env} {s : State} {m : MethodId} {below : List Frame} {meth : Method} {c : Code} {b Ls : Nat} {xs : Nat → Int32} {adX adM : Nat → Nat} {kc kn : Nat} (K : GOK (z, (13, 600000, 7302250), code, 4, RL) (p, e, s, m, #[Value.ref b], below, meth, c, fun q => s.heap.size ≤ q)) (S : SXP (p, e, s, m, #[Value.ref b], below, meth, c, fun q => s.heap.size ≤ q) b Ls xs) (hkc : kc ≤ 600000) (hkn : kn ≤ 7302250) (hL : Ls ≤ 2560) (i : Nat) (hi : i + 4 < Ls) {hx hm : HS} (v0 : INW hx hm) (hk : ∀ hx hm : HS, INW hx hm → GW (z, (13, 600000, 7302250), code, 4, RL) (lw_Z below #[Value.ref b] s) (p, e, s, m, #[Value.ref b], below, meth, c, fun q => s.heap.size ≤ q) (aw_w (gw_wt z adX layX) hx ++ aw_w (gw_wt z adM layM) hm) kc kn 1300 [some (.ref b), some (.ref (adX 0)), some (.ref (adM 0)), some (.int (nI i))] []) : GW (z, (13, 600000, 7302250), code, 4, RL) (lw_Z below #[Value.ref b] s) (p, e, s, m, #[Value.ref b], below, meth, c, fun q => s.heap.size ≤ q) (aw_w (gw_wt z adX layX) hx ++ aw_w (gw_wt z adM layM) hm) kc kn 1125 [some (.ref b), some (.ref (adX 0)), some (.ref (adM 0)), some (.int (nI i))] [] := by
  have v : INV hx hm := v0.1
  obtain ⟨⟨N, T, Wn, H⟩, r, sh, ⟨Lt, l1, l2⟩, bb⟩ := id v
  obtain ⟨wt, ww⟩ := v0.2.at H
  have M := r.mw H
  have Z := sh.mz
  have hz : ∀ j, j < 4 → SZ hx (7 + j) := fun j hj => (sh j hj).2.2.2.2
  refine gw_al1 K dL_law_1125 ?_
  refine gw_al0 K dL_law_1126 ?_
  refine gw_il3 K dL_law_1127 ?_
  refine gw_iconst (v := 1) K dL_law_1128 (by decide) ?_
  refine gw_iadd K dL_law_1129 ?_
  refine gw_sld K S dL_law_1130 (ixs (k := 1) (by omega) hL) ?_
  refine gw_al0 K dL_law_1131 ?_
  refine gw_il3 K dL_law_1132 ?_
  refine gw_iconst (v := 2) K dL_law_1133 (by decide) ?_
  refine gw_iadd K dL_law_1134 ?_
  refine gw_sld K S dL_law_1135 (ixs (k := 2) (by omega) hL) ?_
  refine gw_al0 K dL_law_1136 ?_
  refine gw_il3 K dL_law_1137 ?_
  refine gw_iconst (v := 3) K dL_law_1138 (by decide) ?_
  refine gw_iadd K dL_law_1139 ?_
  refine gw_sld K S dL_law_1140 (ixs (k := 3) (by omega) hL) ?_
  refine gw_callL K (tX6_sheet z.1 (z.2.1, adX, z.2.2.1, z.2.2.2.1, z.2.2.2.2.1) z.2.2.2.2.2 hx _ _ _) (i := 0) rfl (Nat.le_of_ble_eq_true rfl) fX6_sheet lL_144 dL_law_1141 rfl clsX6 rfl (Nat.le_of_ble_eq_true rfl) hkc hkn (fun o1 hn1 q1 => ?_)
  obtain ⟨rfl, rfl⟩ := q1
  refine (show GW _ _ _ _ _ _ _ _ (.int _ :: _) from ?_)
  refine gw_pop K dL_law_1144 rfl ?_
  refine gw_al2 K dL_law_1145 ?_
  refine gw_al0 K dL_law_1146 ?_
  refine gw_il3 K dL_law_1147 ?_
  refine gw_iconst (v := 1) K dL_law_1148 (by decide) ?_
  refine gw_iadd K dL_law_1149 ?_
  refine gw_sld K S dL_law_1150 (ixs (k := 1) (by omega) hL) ?_
  refine gw_al0 K dL_law_1151 ?_
  refine gw_il3 K dL_law_1152 ?_
  refine gw_iconst (v := 2) K dL_law_1153 (by decide) ?_
  refine gw_iadd K dL_law_1154 ?_
  refine gw_sld K S dL_law_1155 (ixs (k := 2) (by omega) hL) ?_
  refine gw_al0 K dL_law_1156 ?_
  refine gw_il3 K dL_law_1157 ?_
  refine gw_iconst (v := 3) K dL_law_1158 (by decide) ?_
  refine gw_iadd K dL_law_1159 ?_
  refine gw_sld K S dL_law_1160 (ixs (k := 3) (by omega) hL) ?_
  refine gw_callR K (tX7_sheet z.1 (z.2.1, adM, z.2.2.1, z.2.2.2.1, z.2.2.2.2.1) z.2.2.2.2.2 hm _ _ _) (i := 0) rfl (Nat.le_of_ble_eq_true rfl) fX7_sheet lL_147 dL_law_1161 rfl clsX7 rfl (Nat.le_of_ble_eq_true rfl) hkc hkn (fun o2 hn2 q2 => ?_)
  obtain ⟨rfl, q2⟩ := q2
  subst q2
  refine (show GW _ _ _ _ _ _ _ _ (.int _ :: _) from ?_)
  refine gw_pop K dL_law_1164 rfl ?_
  refine gw_goto (tgt := 1300) K dL_law_1165 (by decide) ?_
  exact hk _ _ ⟨(jn_sheet v _ _ _).2, (wr_sheet v0.2 _ _ _)⟩
set_option maxHeartbeats 8000000 in
set_option maxRecDepth 100000 in
theorem law_c31 {z : G6} {p : Program} {e : Env} {s : State} {m : MethodId} {below : List Frame} {meth : Method} {c : Code} {b Ls : Nat} {xs : Nat → Int32} {adX adM : Nat → Nat} {kc kn : Nat} (K : GOK (z, (13, 600000, 7302250), code, 4, RL) (p, e, s, m, #[Value.ref b], below, meth, c, fun q => s.heap.size ≤ q)) (S : SXP (p, e, s, m, #[Value.ref b], below, meth, c, fun q => s.heap.size ≤ q) b Ls xs) (hkc : kc ≤ 600000) (hkn : kn ≤ 7302250) (hL : Ls ≤ 2560) (i : Nat) (hi : i + 4 < Ls) {hx hm : HS} (v0 : INW hx hm) (hk : ∀ hx hm : HS, INW hx hm → GW (z, (13, 600000, 7302250), code, 4, RL) (lw_Z below #[Value.ref b] s) (p, e, s, m, #[Value.ref b], below, meth, c, fun q => s.heap.size ≤ q) (aw_w (gw_wt z adX layX) hx ++ aw_w (gw_wt z adM layM) hm) kc kn 1300 [some (.ref b), some (.ref (adX 0)), some (.ref (adM 0)), some (.int (nI i))] []) : GW (z, (13, 600000, 7302250), code, 4, RL) (lw_Z below #[Value.ref b] s) (p, e, s, m, #[Value.ref b], below, meth, c, fun q => s.heap.size ≤ q) (aw_w (gw_wt z adX layX) hx ++ aw_w (gw_wt z adM layM) hm) kc kn 1168 [some (.ref b), some (.ref (adX 0)), some (.ref (adM 0)), some (.int (nI i))] [] := by
  have v : INV hx hm := v0.1
  obtain ⟨⟨N, T, Wn, H⟩, r, sh, ⟨Lt, l1, l2⟩, bb⟩ := id v
  obtain ⟨wt, ww⟩ := v0.2.at H
  have M := r.mw H
  have Z := sh.mz
  have hz : ∀ j, j < 4 → SZ hx (7 + j) := fun j hj => (sh j hj).2.2.2.2
  refine gw_al1 K dL_law_1168 ?_
  refine gw_al0 K dL_law_1169 ?_
  refine gw_il3 K dL_law_1170 ?_
  refine gw_iconst (v := 1) K dL_law_1171 (by decide) ?_
  refine gw_iadd K dL_law_1172 ?_
  refine gw_sld K S dL_law_1173 (ixs (k := 1) (by omega) hL) ?_
  refine gw_al0 K dL_law_1174 ?_
  refine gw_il3 K dL_law_1175 ?_
  refine gw_iconst (v := 2) K dL_law_1176 (by decide) ?_
  refine gw_iadd K dL_law_1177 ?_
  refine gw_sld K S dL_law_1178 (ixs (k := 2) (by omega) hL) ?_
  refine gw_al0 K dL_law_1179 ?_
  refine gw_il3 K dL_law_1180 ?_
  refine gw_iconst (v := 3) K dL_law_1181 (by decide) ?_
  refine gw_iadd K dL_law_1182 ?_
  refine gw_sld K S dL_law_1183 (ixs (k := 3) (by omega) hL) ?_
  refine gw_callL K (tX6_lay z.1 (z.2.1, adX, z.2.2.1, z.2.2.2.1, z.2.2.2.2.1) z.2.2.2.2.2 hx _ _ _ hz) (i := 0) rfl (Nat.le_of_ble_eq_true rfl) fX6_lay lL_148 dL_law_1184 rfl clsX6 rfl (Nat.le_of_ble_eq_true rfl) hkc hkn (fun o1 hn1 q1 => ?_)
  obtain ⟨rfl, rfl⟩ := q1
  refine (show GW _ _ _ _ _ _ _ _ (.int _ :: _) from ?_)
  refine gw_pop K dL_law_1187 rfl ?_
  refine gw_al2 K dL_law_1188 ?_
  refine gw_al0 K dL_law_1189 ?_
  refine gw_il3 K dL_law_1190 ?_
  refine gw_iconst (v := 1) K dL_law_1191 (by decide) ?_
  refine gw_iadd K dL_law_1192 ?_
  refine gw_sld K S dL_law_1193 (ixs (k := 1) (by omega) hL) ?_
  refine gw_al0 K dL_law_1194 ?_
  refine gw_il3 K dL_law_1195 ?_
  refine gw_iconst (v := 2) K dL_law_1196 (by decide) ?_
  refine gw_iadd K dL_law_1197 ?_
  refine gw_sld K S dL_law_1198 (ixs (k := 2) (by omega) hL) ?_
  refine gw_al0 K dL_law_1199 ?_
  refine gw_il3 K dL_law_1200 ?_
  refine gw_iconst (v := 3) K dL_law_1201 (by decide) ?_
  refine gw_iadd K dL_law_1202 ?_
  refine gw_sld K S dL_law_1203 (ixs (k := 3) (by omega) hL) ?_
  refine gw_callR K (tX7_lay z.1 (z.2.1, adM, z.2.2.1, z.2.2.2.1, z.2.2.2.2.1) z.2.2.2.2.2 hm _ _ _ Z) (i := 0) rfl (Nat.le_of_ble_eq_true rfl) fX7_lay lL_151 dL_law_1204 rfl clsX7 rfl (Nat.le_of_ble_eq_true rfl) hkc hkn (fun o2 hn2 q2 => ?_)
  obtain ⟨rfl, q2⟩ := q2
  subst q2
  refine (show GW _ _ _ _ _ _ _ _ (.int _ :: _) from ?_)
  refine gw_pop K dL_law_1207 rfl ?_
  refine gw_goto (tgt := 1300) K dL_law_1208 (by decide) ?_
  exact hk _ _ ⟨(jn_lay v _ _ _).2, (wr_lay v0.2 _ _ _)⟩
set_option maxHeartbeats 8000000 in
set_option maxRecDepth 100000 in
theorem law_c32 {z : G6} {p : Program} {e : Env} {s : State} {m : MethodId} {below : List Frame} {meth : Method} {c : Code} {b Ls : Nat} {xs : Nat → Int32} {adX adM : Nat → Nat} {kc kn : Nat} (K : GOK (z, (13, 600000, 7302250), code, 4, RL) (p, e, s, m, #[Value.ref b], below, meth, c, fun q => s.heap.size ≤ q)) (S : SXP (p, e, s, m, #[Value.ref b], below, meth, c, fun q => s.heap.size ≤ q) b Ls xs) (hkc : kc ≤ 600000) (hkn : kn ≤ 7302250) (hL : Ls ≤ 2560) (i : Nat) (hi : i + 4 < Ls) {hx hm : HS} (v0 : INW hx hm) (hk : ∀ hx hm : HS, INW hx hm → GW (z, (13, 600000, 7302250), code, 4, RL) (lw_Z below #[Value.ref b] s) (p, e, s, m, #[Value.ref b], below, meth, c, fun q => s.heap.size ≤ q) (aw_w (gw_wt z adX layX) hx ++ aw_w (gw_wt z adM layM) hm) kc kn 1300 [some (.ref b), some (.ref (adX 0)), some (.ref (adM 0)), some (.int (nI i))] []) : GW (z, (13, 600000, 7302250), code, 4, RL) (lw_Z below #[Value.ref b] s) (p, e, s, m, #[Value.ref b], below, meth, c, fun q => s.heap.size ≤ q) (aw_w (gw_wt z adX layX) hx ++ aw_w (gw_wt z adM layM) hm) kc kn 1211 [some (.ref b), some (.ref (adX 0)), some (.ref (adM 0)), some (.int (nI i))] [] := by
  have v : INV hx hm := v0.1
  obtain ⟨⟨N, T, Wn, H⟩, r, sh, ⟨Lt, l1, l2⟩, bb⟩ := id v
  obtain ⟨wt, ww⟩ := v0.2.at H
  have M := r.mw H
  have Z := sh.mz
  have hz : ∀ j, j < 4 → SZ hx (7 + j) := fun j hj => (sh j hj).2.2.2.2
  refine gw_al1 K dL_law_1211 ?_
  refine gw_al0 K dL_law_1212 ?_
  refine gw_il3 K dL_law_1213 ?_
  refine gw_iconst (v := 1) K dL_law_1214 (by decide) ?_
  refine gw_iadd K dL_law_1215 ?_
  refine gw_sld K S dL_law_1216 (ixs (k := 1) (by omega) hL) ?_
  refine gw_al0 K dL_law_1217 ?_
  refine gw_il3 K dL_law_1218 ?_
  refine gw_iconst (v := 2) K dL_law_1219 (by decide) ?_
  refine gw_iadd K dL_law_1220 ?_
  refine gw_sld K S dL_law_1221 (ixs (k := 2) (by omega) hL) ?_
  refine gw_al0 K dL_law_1222 ?_
  refine gw_il3 K dL_law_1223 ?_
  refine gw_iconst (v := 3) K dL_law_1224 (by decide) ?_
  refine gw_iadd K dL_law_1225 ?_
  refine gw_sld K S dL_law_1226 (ixs (k := 3) (by omega) hL) ?_
  refine gw_al0 K dL_law_1227 ?_
  refine gw_il3 K dL_law_1228 ?_
  refine gw_iconst (v := 4) K dL_law_1229 (by decide) ?_
  refine gw_iadd K dL_law_1230 ?_
  refine gw_sld K S dL_law_1231 (ixs (k := 4) (by omega) hL) ?_
  refine gw_callL K (tX6_read z.1 (z.2.1, adX, z.2.2.1, z.2.2.2.1, z.2.2.2.2.1) z.2.2.2.2.2 hx _ _ _ _ H hz) (i := 0) rfl (Nat.le_of_ble_eq_true rfl) fX6_read lL_152 dL_law_1232 rfl clsX6 rfl (Nat.le_of_ble_eq_true rfl) hkc hkn (fun o1 hn1 q1 => ?_)
  obtain ⟨rfl, rfl⟩ := q1
  refine (show GW _ _ _ _ _ _ _ _ (.int _ :: _) from ?_)
  refine gw_pop K dL_law_1235 rfl ?_
  refine gw_al2 K dL_law_1236 ?_
  refine gw_al0 K dL_law_1237 ?_
  refine gw_il3 K dL_law_1238 ?_
  refine gw_iconst (v := 1) K dL_law_1239 (by decide) ?_
  refine gw_iadd K dL_law_1240 ?_
  refine gw_sld K S dL_law_1241 (ixs (k := 1) (by omega) hL) ?_
  refine gw_al0 K dL_law_1242 ?_
  refine gw_il3 K dL_law_1243 ?_
  refine gw_iconst (v := 2) K dL_law_1244 (by decide) ?_
  refine gw_iadd K dL_law_1245 ?_
  refine gw_sld K S dL_law_1246 (ixs (k := 2) (by omega) hL) ?_
  refine gw_al0 K dL_law_1247 ?_
  refine gw_il3 K dL_law_1248 ?_
  refine gw_iconst (v := 3) K dL_law_1249 (by decide) ?_
  refine gw_iadd K dL_law_1250 ?_
  refine gw_sld K S dL_law_1251 (ixs (k := 3) (by omega) hL) ?_
  refine gw_al0 K dL_law_1252 ?_
  refine gw_il3 K dL_law_1253 ?_
  refine gw_iconst (v := 4) K dL_law_1254 (by decide) ?_
  refine gw_iadd K dL_law_1255 ?_
  refine gw_sld K S dL_law_1256 (ixs (k := 4) (by omega) hL) ?_
  refine gw_callR K (tX7_read z.1 (z.2.1, adM, z.2.2.1, z.2.2.2.1, z.2.2.2.2.1) z.2.2.2.2.2 hm _ _ _ _ M Z) (i := 0) rfl (Nat.le_of_ble_eq_true rfl) fX7_read lL_155 dL_law_1257 rfl clsX7 rfl (Nat.le_of_ble_eq_true rfl) hkc hkn (fun o2 hn2 q2 => ?_)
  obtain ⟨⟨r2, rfl⟩, q2⟩ := q2
  refine (show GW _ _ _ _ _ _ _ _ (.int _ :: _) from ?_)
  refine gw_pop K dL_law_1260 rfl ?_
  refine gw_goto (tgt := 1300) K dL_law_1261 (by decide) ?_
  exact hk _ _ ⟨(jn_read v _ _ _ _ H q2), (wr_read v0.2 H hz _ _ _ _)⟩
set_option maxHeartbeats 8000000 in
set_option maxRecDepth 100000 in
theorem law_c33 {z : G6} {p : Program} {e : Env} {s : State} {m : MethodId} {below : List Frame} {meth : Method} {c : Code} {b Ls : Nat} {xs : Nat → Int32} {adX adM : Nat → Nat} {kc kn : Nat} (K : GOK (z, (13, 600000, 7302250), code, 4, RL) (p, e, s, m, #[Value.ref b], below, meth, c, fun q => s.heap.size ≤ q)) (S : SXP (p, e, s, m, #[Value.ref b], below, meth, c, fun q => s.heap.size ≤ q) b Ls xs) (hkc : kc ≤ 600000) (hkn : kn ≤ 7302250) (hL : Ls ≤ 2560) (i : Nat) (hi : i + 4 < Ls) {hx hm : HS} (v0 : INW hx hm) (hk : ∀ hx hm : HS, INW hx hm → GW (z, (13, 600000, 7302250), code, 4, RL) (lw_Z below #[Value.ref b] s) (p, e, s, m, #[Value.ref b], below, meth, c, fun q => s.heap.size ≤ q) (aw_w (gw_wt z adX layX) hx ++ aw_w (gw_wt z adM layM) hm) kc kn 1300 [some (.ref b), some (.ref (adX 0)), some (.ref (adM 0)), some (.int (nI i))] []) : GW (z, (13, 600000, 7302250), code, 4, RL) (lw_Z below #[Value.ref b] s) (p, e, s, m, #[Value.ref b], below, meth, c, fun q => s.heap.size ≤ q) (aw_w (gw_wt z adX layX) hx ++ aw_w (gw_wt z adM layM) hm) kc kn 1264 [some (.ref b), some (.ref (adX 0)), some (.ref (adM 0)), some (.int (nI i))] [] := by
  have v : INV hx hm := v0.1
  obtain ⟨⟨N, T, Wn, H⟩, r, sh, ⟨Lt, l1, l2⟩, bb⟩ := id v
  obtain ⟨wt, ww⟩ := v0.2.at H
  have M := r.mw H
  have Z := sh.mz
  have hz : ∀ j, j < 4 → SZ hx (7 + j) := fun j hj => (sh j hj).2.2.2.2
  refine gw_al1 K dL_law_1264 ?_
  refine gw_callL K (tX6_lost z.1 (z.2.1, adX, z.2.2.1, z.2.2.2.1, z.2.2.2.2.1) z.2.2.2.2.2 hx H) (i := 0) rfl (Nat.le_of_ble_eq_true rfl) fX6_lost lL_156 dL_law_1265 rfl clsX6 rfl (Nat.le_of_ble_eq_true rfl) hkc hkn (fun o1 hn1 q1 => ?_)
  obtain ⟨⟨r1, rfl⟩, q1⟩ := q1
  refine (show GW _ _ _ _ _ _ _ _ (.int _ :: _) from ?_)
  refine gw_pop K dL_law_1268 rfl ?_
  refine gw_al2 K dL_law_1269 ?_
  refine gw_callR K (tX7_lost z.1 (z.2.1, adM, z.2.2.1, z.2.2.2.1, z.2.2.2.2.1) z.2.2.2.2.2 hm) (i := 0) rfl (Nat.le_of_ble_eq_true rfl) fX7_lost lL_159 dL_law_1270 rfl clsX7 rfl (Nat.le_of_ble_eq_true rfl) hkc hkn (fun o2 hn2 q2 => ?_)
  obtain ⟨rfl, q2⟩ := q2
  subst q2
  refine (show GW _ _ _ _ _ _ _ _ (.int _ :: _) from ?_)
  refine gw_pop K dL_law_1273 rfl ?_
  refine gw_goto (tgt := 1300) K dL_law_1274 (by decide) ?_
  exact hk _ _ ⟨(v.q q1), (v0.2.q q1)⟩
set_option maxHeartbeats 8000000 in
set_option maxRecDepth 100000 in
theorem law_c34 {z : G6} {p : Program} {e : Env} {s : State} {m : MethodId} {below : List Frame} {meth : Method} {c : Code} {b Ls : Nat} {xs : Nat → Int32} {adX adM : Nat → Nat} {kc kn : Nat} (K : GOK (z, (13, 600000, 7302250), code, 4, RL) (p, e, s, m, #[Value.ref b], below, meth, c, fun q => s.heap.size ≤ q)) (S : SXP (p, e, s, m, #[Value.ref b], below, meth, c, fun q => s.heap.size ≤ q) b Ls xs) (hkc : kc ≤ 600000) (hkn : kn ≤ 7302250) (hL : Ls ≤ 2560) (i : Nat) (hi : i + 4 < Ls) {hx hm : HS} (v0 : INW hx hm) (hk : ∀ hx hm : HS, INW hx hm → GW (z, (13, 600000, 7302250), code, 4, RL) (lw_Z below #[Value.ref b] s) (p, e, s, m, #[Value.ref b], below, meth, c, fun q => s.heap.size ≤ q) (aw_w (gw_wt z adX layX) hx ++ aw_w (gw_wt z adM layM) hm) kc kn 1300 [some (.ref b), some (.ref (adX 0)), some (.ref (adM 0)), some (.int (nI i))] []) : GW (z, (13, 600000, 7302250), code, 4, RL) (lw_Z below #[Value.ref b] s) (p, e, s, m, #[Value.ref b], below, meth, c, fun q => s.heap.size ≤ q) (aw_w (gw_wt z adX layX) hx ++ aw_w (gw_wt z adM layM) hm) kc kn 1277 [some (.ref b), some (.ref (adX 0)), some (.ref (adM 0)), some (.int (nI i))] [] := by
  have v : INV hx hm := v0.1
  obtain ⟨⟨N, T, Wn, H⟩, r, sh, ⟨Lt, l1, l2⟩, bb⟩ := id v
  obtain ⟨wt, ww⟩ := v0.2.at H
  have M := r.mw H
  have Z := sh.mz
  have hz : ∀ j, j < 4 → SZ hx (7 + j) := fun j hj => (sh j hj).2.2.2.2
  refine gw_al1 K dL_law_1277 ?_
  refine gw_al0 K dL_law_1278 ?_
  refine gw_il3 K dL_law_1279 ?_
  refine gw_iconst (v := 1) K dL_law_1280 (by decide) ?_
  refine gw_iadd K dL_law_1281 ?_
  refine gw_sld K S dL_law_1282 (ixs (k := 1) (by omega) hL) ?_
  refine gw_callL K (tX6_count z.1 (z.2.1, adX, z.2.2.1, z.2.2.2.1, z.2.2.2.2.1) z.2.2.2.2.2 hx _ H) (i := 0) rfl (Nat.le_of_ble_eq_true rfl) fX6_count lL_160 dL_law_1283 rfl clsX6 rfl (Nat.le_of_ble_eq_true rfl) hkc hkn (fun o1 hn1 q1 => ?_)
  obtain ⟨⟨r1, rfl⟩, q1⟩ := q1
  refine (show GW _ _ _ _ _ _ _ _ (.int _ :: _) from ?_)
  refine gw_pop K dL_law_1286 rfl ?_
  refine gw_al2 K dL_law_1287 ?_
  refine gw_al0 K dL_law_1288 ?_
  refine gw_il3 K dL_law_1289 ?_
  refine gw_iconst (v := 1) K dL_law_1290 (by decide) ?_
  refine gw_iadd K dL_law_1291 ?_
  refine gw_sld K S dL_law_1292 (ixs (k := 1) (by omega) hL) ?_
  refine gw_callR K (tX7_count z.1 (z.2.1, adM, z.2.2.1, z.2.2.2.1, z.2.2.2.2.1) z.2.2.2.2.2 hm _ M) (i := 0) rfl (Nat.le_of_ble_eq_true rfl) fX7_count lL_163 dL_law_1293 rfl clsX7 rfl (Nat.le_of_ble_eq_true rfl) hkc hkn (fun o2 hn2 q2 => ?_)
  obtain ⟨rfl, q2⟩ := q2
  subst q2
  refine (show GW _ _ _ _ _ _ _ _ (.int _ :: _) from ?_)
  refine gw_pop K dL_law_1296 rfl ?_
  refine gw_goto (tgt := 1300) K dL_law_1297 (by decide) ?_
  exact hk _ _ ⟨(v.q q1), (v0.2.q q1)⟩
set_option maxHeartbeats 8000000 in
set_option maxRecDepth 100000 in
theorem law_loop {z : G6} {p : Program} {e : Env} {s : State} {m : MethodId} {below : List Frame} {meth : Method} {c : Code} {b Ls : Nat} {xs : Nat → Int32} {adX adM : Nat → Nat} {kc kn : Nat} (K : GOK (z, (13, 600000, 7302250), code, 4, RL) (p, e, s, m, #[Value.ref b], below, meth, c, fun q => s.heap.size ≤ q)) (S : SXP (p, e, s, m, #[Value.ref b], below, meth, c, fun q => s.heap.size ≤ q) b Ls xs) (hkc : kc ≤ 600000) (hkn : kn ≤ 7302250) (hL : Ls ≤ 2560) (i : Nat) (hret : meth.sig.returnType = ret) :
    ∀ (n : Nat) (hx hm : HS), Ls + 5 - i < n → i ≤ 2560 → INW hx hm → GW (z, (13, 600000, 7302250), code, 4, RL) (lw_Z below #[Value.ref b] s) (p, e, s, m, #[Value.ref b], below, meth, c, fun q => s.heap.size ≤ q) (aw_w (gw_wt z adX layX) hx ++ aw_w (gw_wt z adM layM) hm) kc kn 18 [some (.ref b), some (.ref (adX 0)), some (.ref (adM 0)), some (.int (nI i))] [] := by
  intro n
  induction n generalizing i with
  | zero => intro hx hm k1 k2; omega
  | succ n ih =>
    intro hx hm k1 k2 v
    have hk : i + 4 < Ls → ∀ hx hm : HS, INW hx hm → GW (z, (13, 600000, 7302250), code, 4, RL) (lw_Z below #[Value.ref b] s) (p, e, s, m, #[Value.ref b], below, meth, c, fun q => s.heap.size ≤ q) (aw_w (gw_wt z adX layX) hx ++ aw_w (gw_wt z adM layM) hm) kc kn 1300 [some (.ref b), some (.ref (adX 0)), some (.ref (adM 0)), some (.int (nI i))] [] := by
      intro hi hx hm v
      refine gw_ii3 (v2 := nI (i + 5)) K dL_law_1300 (by rw [← nI_add]; rfl) (Nat.le_of_ble_eq_true rfl) rfl ?_
      refine gw_goto (tgt := 18) K dL_law_1303 (by decide) ?_
      exact ih (i + 5) hx hm (by omega) (by omega) v
    refine gw_il3 K dL_law_18 ?_
    refine gw_al0 K dL_law_19 ?_
    refine gw_slen K S dL_law_20 ?_
    refine gw_iconst (v := 5) K dL_law_21 (by decide) ?_
    refine gw_isub K dL_law_22 ?_
    refine gw_icmp_gt (tgt := 1306) K dL_law_23 (by decide) (fun _ => ?_) (fun b23 => ?_)
    · refine gw_iconst (v := 1) K dL_law_1306 (by decide) ?_
      exact gw_lret hret K dL_law_1307 hkc hkn
    · have hi : i + 4 < Ls := by
        rcases Nat.lt_or_ge (i + 4) Ls with q | q
        · exact q
        · exact absurd ((lw_gt k2 hL).mpr (by omega)) b23
      refine gw_al0 K dL_law_26 ?_
      refine gw_il3 K dL_law_27 ?_
      refine gw_sld K S dL_law_28 (vp_in_nI (by omega) (by omega)) ?_
      refine gw_bipush (v := 63) K dL_law_29 (by decide) ?_
      refine gw_iand K dL_law_31 ?_
      exact gw_tsw (tgt := 1300) K dL_law_32 (by decide) (by decide) (by decide) ⟨fun _ => law_c0 K S hkc hkn hL i hi v (hk hi), fun _ => law_c1 K S hkc hkn hL i hi v (hk hi), fun _ => law_c2 K S hkc hkn hL i hi v (hk hi), fun _ => law_c3 K S hkc hkn hL i hi v (hk hi), fun _ => law_c4 K S hkc hkn hL i hi v (hk hi), fun _ => law_c5 K S hkc hkn hL i hi v (hk hi), fun _ => law_c6 K S hkc hkn hL i hi v (hk hi), fun _ => law_c7 K S hkc hkn hL i hi v (hk hi), fun _ => law_c8 K S hkc hkn hL i hi v (hk hi), fun _ => law_c9 K S hkc hkn hL i hi v (hk hi), fun _ => law_c10 K S hkc hkn hL i hi v (hk hi), fun _ => law_c11 K S hkc hkn hL i hi v (hk hi), fun _ => law_c12 K S hkc hkn hL i hi v (hk hi), fun _ => law_c13 K S hkc hkn hL i hi v (hk hi), fun _ => law_c14 K S hkc hkn hL i hi v (hk hi), fun _ => law_c15 K S hkc hkn hL i hi v (hk hi), fun _ => law_c16 K S hkc hkn hL i hi v (hk hi), fun _ => law_c17 K S hkc hkn hL i hi v (hk hi), fun _ => law_c18 K S hkc hkn hL i hi v (hk hi), fun _ => law_c19 K S hkc hkn hL i hi v (hk hi), fun _ => law_c20 K S hkc hkn hL i hi v (hk hi), fun _ => law_c21 K S hkc hkn hL i hi v (hk hi), fun _ => law_c22 K S hkc hkn hL i hi v (hk hi), fun _ => law_c23 K S hkc hkn hL i hi v (hk hi), fun _ => law_c24 K S hkc hkn hL i hi v (hk hi), fun _ => law_c25 K S hkc hkn hL i hi v (hk hi), fun _ => law_c26 K S hkc hkn hL i hi v (hk hi), fun _ => law_c27 K S hkc hkn hL i hi v (hk hi), fun _ => law_c28 K S hkc hkn hL i hi v (hk hi), fun _ => law_c29 K S hkc hkn hL i hi v (hk hi), fun _ => law_c30 K S hkc hkn hL i hi v (hk hi), fun _ => law_c31 K S hkc hkn hL i hi v (hk hi), fun _ => law_c32 K S hkc hkn hL i hi v (hk hi), fun _ => law_c33 K S hkc hkn hL i hi v (hk hi), fun _ => law_c34 K S hkc hkn hL i hi v (hk hi), trivial⟩ (fun _ => hk hi hx hm v)
set_option maxHeartbeats 8000000 in
set_option maxRecDepth 100000 in
theorem law_walk {z : G6} {p : Program} {e : Env} {s : State} {m : MethodId} {below : List Frame} {meth : Method} {c : Code} {b Ls : Nat} {xs : Nat → Int32} (hret : meth.sig.returnType = ret) (K : GOK (z, (13, 600000, 7302250), code, 4, RL) (p, e, s, m, #[Value.ref b], below, meth, c, fun q => s.heap.size ≤ q)) (S : SXP (p, e, s, m, #[Value.ref b], below, meth, c, fun q => s.heap.size ≤ q) b Ls xs) (hL : Ls ≤ 2560) :
    GW (z, (13, 600000, 7302250), code, 4, RL) (lw_Z below #[Value.ref b] s) (p, e, s, m, #[Value.ref b], below, meth, c, fun q => s.heap.size ≤ q) [] 0 0 0 [some (.ref b), none, none, none] [] := by
  refine gw_new K (ci := 6) (fs := [.null, .null, .null, .null, .null, .null, .null, .null, .null, .null, .null, .int 0, .int 0]) rfl wnX6 tyX6_ok clL_7 inX6_ fiX6.2.1 (by decide) (Nat.le_of_ble_eq_true rfl) (Nat.le_of_ble_eq_true rfl) dL_law_0 (fun q0 => ?_)
  refine gw_dup K dL_law_3 rfl ?_
  refine gw_ctor K (nX6 _ q0) (Nat.le_of_ble_eq_true rfl) fiX6 (Or.inl lL_9) dL_law_4 (Nat.le_of_ble_eq_true rfl) (Nat.le_of_ble_eq_true rfl) (Nat.le_of_ble_eq_true rfl) (fun w1 hw1 => ?_)
  obtain ⟨adX, rfl, rfl⟩ := hw1
  refine gw_eq (List.nil_append _) ?_
  refine gw_as1 K dL_law_7 (Nat.le_of_ble_eq_true rfl) rfl ?_
  refine gw_new K (ci := 7) (fs := [.int 0, .null, .null, .null, .null, .null, .int 0, .null, .null, .null, .null, .null, .int 0, .null, .null, .null, .null, .int 0, .int 0, .int 0, .int 0, .int 0, .int 0, .int 0, .null, .null, .null, .int 0, .null, .null, .null, .null, .null, .int 0, .null, .null, .int 0, .int 0, .long 0, .long 0, .null, .null, .null, .int 0]) rfl wnX7 tyX7_ok clL_10 inX7_ fiX7.2.1 (by decide) (Nat.le_of_ble_eq_true rfl) (Nat.le_of_ble_eq_true rfl) dL_law_8 (fun q1 => ?_)
  refine gw_dup K dL_law_11 rfl ?_
  refine gw_ctor K (nX7 _ q1) (Nat.le_of_ble_eq_true rfl) fiX7 (Or.inl lL_12) dL_law_12 (Nat.le_of_ble_eq_true rfl) (Nat.le_of_ble_eq_true rfl) (Nat.le_of_ble_eq_true rfl) (fun w1 hw1 => ?_)
  obtain ⟨adM, rfl, rfl⟩ := hw1
  refine gw_as2 K dL_law_15 (Nat.le_of_ble_eq_true rfl) rfl ?_
  refine gw_iconst (v := 0) K dL_law_16 (by decide) ?_
  refine gw_is3 K dL_law_17 (Nat.le_of_ble_eq_true rfl) rfl ?_
  exact law_loop K S (Nat.le_of_ble_eq_true rfl) (Nat.le_of_ble_eq_true rfl) hL 0 hret (Ls + 6) hX0 hM0 (by omega) (by omega) ⟨inv_0, wrd_0⟩
set_option maxHeartbeats 4000000 in
theorem whole_start {p : Program} {e : Env} {s : State} {m : MethodId} {below : List Frame} {meth : Method} {c : Code} (l : Launch) {b L : Nat} {xs : Nat → Int32} (hL : L ≤ 2560) (C0 : lw_At p s m meth c b L xs) : W p l e room_1 s m #[Value.ref b] below meth c s.heap [] 0 0 (lw_Z below #[Value.ref b] s) (entryFrame m ([Value.ref b] : List Value).toArray 4) := by
  obtain ⟨hx, hb, hr, hml, hown, hts, hX, hbl, hlocks, hgv⟩ := C0
  obtain ⟨D, cI, cZ, cO, hK⟩ := law_K hts
  obtain ⟨sta, hZ⟩ := law_Z (A := fun q => s.heap.size ≤ q) hgv hts (fun a h => Nat.not_le.mpr h)
  have K : GOK ((l, D, cI, cZ, cO, sta), (13, 600000, 7302250), code, 4, RL) (p, e, s, m, #[Value.ref b], below, meth, c, fun q => s.heap.size ≤ q) := ⟨hx, hb, hml, hown, fun w hw => hts w (List.mem_filter.mp hw).1, hlocks, hK, fun _ h => h, aw_N.of hts aoS, hZ⟩
  have hl := lv_entry ([.ref b]) (n := 4) (Nat.le_of_ble_eq_true rfl)
  rw [lg_entry_eq]
  refine law_walk (z := (l, D, cI, cZ, cO, sta)) hr K ⟨hX, hbl, Nat.not_le.mpr hbl⟩ hL s.heap [] _ ⟨hl.1, hl.2.1, fun i v hi => ?_⟩ (fun k q h => by simp at h) ⟨fun i j p q h => by simp at h, fun k q h => by simp at h⟩ va_S.rf
  match i, hi with
  | 0, hi => cases hi; exact hl.2.2 (0, .ref b) (by simp [lv_args])
  | 1, hi => simp at hi
  | 2, hi => simp at hi
  | 3, hi => simp at hi
  | i + 4, hi => simp at hi

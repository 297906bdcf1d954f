/-! SIDE BY SIDE. hx: the class, hm: the reference -/
def rp : List (Nat × Nat) := [(16, 1), (17, 2), (18, 3), (19, 4), (20, 5), (21, 6), (22, 7), (23, 8), (24, 9), (25, 10), (11, 11), (33, 14), (26, 18), (27, 19), (28, 20), (29, 21), (30, 22)]
def sp : List ((Nat × Nat) × Nat) := [((1, 5), 0), ((2, 5), 6), ((3, 7), 27), ((0, 11), 12), ((4, 1), 17), ((4, 2), 22), ((0, 12), 43)]
def REL (hx hm : HS) : Prop := (∀ p ∈ rp, hm.1 p.2 = hx.1 p.1) ∧ ∀ p ∈ sp, hm.1 0 p.2 = hx.1 p.1.1 p.1.2
theorem rp_inj : ∀ p ∈ rp, ∀ q ∈ rp, p.1 = q.1 ↔ p.2 = q.2 := by decide
theorem sp_inj : ∀ p ∈ sp, ∀ q ∈ sp, p.1 = q.1 ↔ p.2 = q.2 := by decide
theorem rp_sp : ∀ p ∈ rp, p.2 ≠ 0 ∧ ∀ q ∈ sp, p.1 ≠ q.1.1 := by decide
/-- a row of both becomes another -/
theorem REL.row {hx hm : HS} {c c' : Nat} {f f' : Nat → Int32} (r : REL hx hm) (hp : (c, c') ∈ rp) (hf : f' = f) : REL (setR hx c f) (setR hm c' f') := by
  subst hf
  refine ⟨fun p hq => ?_, fun p hq => ?_⟩
  · rw [rdR, rdR]
    by_cases q : p.1 = c
    · rw [if_pos q, if_pos ((rp_inj p hq _ hp).mp q)]
    · rw [if_neg q, if_neg (fun z => q ((rp_inj p hq _ hp).mpr z))]
      exact r.1 p hq
  · rw [rdR, rdR, if_neg (Ne.symm (rp_sp _ hp).1), if_neg (Ne.symm ((rp_sp _ hp).2 p hq))]
    exact r.2 p hq
theorem REL.pt {hx hm : HS} {c c' j : Nat} {v v' : Int32} (r : REL hx hm) (hp : (c, c') ∈ rp) (hv : v' = v) : REL (setI hx c j v) (setI hm c' j v') := by
  unfold setI
  refine r.row hp ?_
  rw [hv, r.1 _ hp]
/-- a number of both becomes another -/
theorem REL.sc {hx hm : HS} {c j j' : Nat} {v v' : Int32} (r : REL hx hm) (hp : ((c, j), j') ∈ sp) (hv : v' = v) : REL (setI hx c j v) (setI hm 0 j' v') := by
  subst hv
  refine ⟨fun p hq => ?_, fun p hq => ?_⟩
  · rw [setI_w (rp_sp p hq).1, setI_w ((rp_sp p hq).2 _ hp)]
    exact r.1 p hq
  · rw [rdI, rdI]
    by_cases q : p.1 = (c, j)
    · rw [if_pos ⟨rfl, (sp_inj p hq _ hp).mp q⟩, if_pos ⟨congrArg Prod.fst q, congrArg Prod.snd q⟩]
    · rw [if_neg (fun z => q ((sp_inj p hq _ hp).mpr z.2)), if_neg (fun z => q (Prod.ext z.1 z.2))]
      exact r.2 p hq
/-- what the class alone has -/
def xo (c : Nat) : Bool := c == 5 || c == 12 || c == 13 || c == 14 || c == 15 || c == 31 || c == 32 || c == 34 || c == 35 || c == 36 || c == 37 || c == 38 || c == 39
theorem xo_rp : ∀ p ∈ rp, xo p.1 = false := by decide
theorem xo_sp : ∀ p ∈ sp, xo p.1.1 = false := by decide
theorem REL.ex {hx hx' hm : HS} (r : REL hx hm) (e : ∀ c, xo c = false → hx'.1 c = hx.1 c) : REL hx' hm := ⟨fun p hq => (r.1 p hq).trans (by rw [e _ (xo_rp p hq)]), fun p hq => (r.2 p hq).trans (by rw [e _ (xo_sp p hq)])⟩
theorem REL.xr {hx hm : HS} {c : Nat} {f : Nat → Int32} (r : REL hx hm) (hc : xo c = true) : REL (setR hx c f) hm := r.ex (fun a ha => by rw [rdR, if_neg (fun q => by rw [q, hc] at ha; cases ha)])
theorem REL.xp {hx hm : HS} {c j : Nat} {v : Int32} (r : REL hx hm) (hc : xo c = true) : REL (setI hx c j v) hm := r.xr hc
/-- what the reference alone has -/
def mo (c : Nat) : Bool := c == 0 || c == 12 || c == 13 || c == 15 || c == 16 || c == 17 || c == 23 || c == 24
def mf_ (j : Nat) : Bool := j == 18 || j == 19 || j == 20 || j == 21 || j == 23 || j == 33 || j == 36 || j == 37
theorem mo_rp : ∀ p ∈ rp, mo p.2 = false := by decide
theorem mf_sp : ∀ p ∈ sp, mf_ p.2 = false := by decide
theorem REL.em {hx hm hm' : HS} (r : REL hx hm) (e : ∀ c, mo c = false → hm'.1 c = hm.1 c) (e0 : ∀ j, mf_ j = false → hm'.1 0 j = hm.1 0 j) : REL hx hm' := ⟨fun p hq => (by rw [e _ (mo_rp p hq)]; exact r.1 p hq), fun p hq => (by rw [e0 _ (mf_sp p hq)]; exact r.2 p hq)⟩
/-- the sheets -/
def SHE (hx hm : HS) : Prop := ∀ k, k < 4 → hm.1 25 k = (if hx.1 (7 + k) 2 = -1 then -4 else hx.1 (7 + k) 1) ∧ (¬ hx.1 (7 + k) 2 = -1 → hm.1 26 k = hx.1 (7 + k) 2) ∧ (∀ i, i < 48 → hm.1 27 (48 * k + i) = hx.1 (7 + k + 33) i) ∧ ¬ hx.1 (7 + k) 1 = -4 ∧ SZ hx (7 + k)
/-- cells of sheets -/
def shc (c : Nat) : Bool := c == 7 || c == 8 || c == 9 || c == 10 || c == 40 || c == 41 || c == 42 || c == 43
theorem shc_k : ∀ k, k < 4 → shc (7 + k) = true ∧ shc (7 + k + 33) = true := by decide
theorem SHE.e {hx hm hx' hm' : HS} (r : SHE hx hm) (e : ∀ c, shc c = true → hx'.1 c = hx.1 c) (e1 : hm'.1 25 = hm.1 25) (e2 : hm'.1 26 = hm.1 26) (e3 : hm'.1 27 = hm.1 27) : SHE hx' hm' := by
  intro k hk
  have q := r k hk
  unfold SZ at q ⊢
  rw [e _ (shc_k k hk).1, e _ (shc_k k hk).2, e1, e2, e3]
  exact q
/-- what holds before and behind every call -/
def INV (hx hm : HS) : Prop := (∃ N T Wn, XW hx N T Wn) ∧ REL hx hm ∧ SHE hx hm ∧ (∃ L, L ≤ 200 ∧ hx.1 4 1 = nI L) ∧ ∀ j, ¬ hx.1 33 j < 0
theorem REL.r {hx hm : HS} (r : REL hx hm) (p : Nat × Nat) (hp : p ∈ rp) : hm.1 p.2 = hx.1 p.1 := r.1 p hp
theorem REL.s {hx hm : HS} (r : REL hx hm) (p : (Nat × Nat) × Nat) (hp : p ∈ sp) : hm.1 0 p.2 = hx.1 p.1.1 p.1.2 := r.2 p hp
theorem REL.mw {hx hm : HS} {N T Wn : Nat} (r : REL hx hm) (H : XW hx N T Wn) : MW hm N T Wn := by
  obtain ⟨h1, h2, h3, h4, h5, h6, h7, h8, h9⟩ := H
  have a1 : hm.1 6 = hx.1 21 := r.r (21, 6) (by decide)
  have a2 : hm.1 7 = hx.1 22 := r.r (22, 7) (by decide)
  have a3 : hm.1 9 = hx.1 24 := r.r (24, 9) (by decide)
  have a4 : hm.1 18 = hx.1 26 := r.r (26, 18) (by decide)
  have a5 : hm.1 19 = hx.1 27 := r.r (27, 19) (by decide)
  have b1 : hm.1 0 0 = hx.1 1 5 := r.s ((1, 5), 0) (by decide)
  have b2 : hm.1 0 6 = hx.1 2 5 := r.s ((2, 5), 6) (by decide)
  have b3 : hm.1 0 27 = hx.1 3 7 := r.s ((3, 7), 27) (by decide)
  unfold MW
  rw [a1, a2, a3, a4, a5, b1, b2, b3]
  exact ⟨h1, h2, h3, h4, h5, h6, h7, h8⟩
theorem SHE.mz {hx hm : HS} (r : SHE hx hm) : MZ hm := by
  intro k hk
  obtain ⟨q1, q2, q3, q4, q5⟩ := r k hk
  by_cases z : hx.1 (7 + k) 2 = -1
  · rw [if_pos z] at q1
    exact Or.inl q1
  · right
    rcases q5 with y | ⟨n, y1, y2⟩
    · exact absurd y z
    · exact ⟨n, y1, (q2 z).trans y2⟩
/-! queries -/
theorem INV.q {hx hx' hm : HS} (v : INV hx hm) (q : XQ hx hx') : INV hx' hm := by
  obtain ⟨⟨N, T, Wn, H⟩, r, s, ⟨L, l1, l2⟩, b⟩ := v
  have e : ∀ c, xo c = false → hx'.1 c = hx.1 c := fun c hc => q.1 c (by
    cases z : scr c
    · rfl
    · simp only [scr, Bool.or_eq_true, beq_iff_eq] at z
      rcases z with ((((((((rfl | rfl) | rfl) | rfl) | rfl) | rfl) | rfl) | rfl) | rfl) | rfl <;> cases hc)
  refine ⟨⟨N, T, Wn, H.q q⟩, r.ex e, s.e (fun c hc => e c ?_) rfl rfl rfl, ⟨L, l1, by rw [e 4 rfl]; exact l2⟩, by rw [e 33 rfl]; exact b⟩
  simp only [shc, Bool.or_eq_true, beq_iff_eq] at hc
  rcases hc with ((((((rfl | rfl) | rfl) | rfl) | rfl) | rfl) | rfl) | rfl <;> rfl
theorem INV.m {hx hm hm' : HS} (v : INV hx hm) (q : MS hm hm') : INV hx hm' := by
  obtain ⟨H, r, s, l, b⟩ := v
  refine ⟨H, r.em (fun c hc => q.1 c ?_) (fun j hj => ?_), s.e (fun _ _ => rfl) (q.1 25 rfl) (q.1 26 rfl) (q.1 27 rfl), l, b⟩
  · cases z : msc c
    · rfl
    · simp only [msc, Bool.or_eq_true, beq_iff_eq] at z
      rcases z with ((((rfl | rfl) | rfl) | rfl) | rfl) | rfl <;> cases hc
  · refine q.2 j ?_ ?_ ?_ <;> (intro z; subst z; cases hj)
/-! mutators: what each leaves keeps its frame -/
theorem sh_w {hx : HS} {c j : Nat} {v : Int32} (hc : shc c = false) : ∀ a, shc a = true → (setI hx c j v).1 a = hx.1 a := fun a ha => setI_w (fun q => by rw [q, hc] at ha; cases ha)
theorem SHE.pt {hx hm : HS} {c j c' j' : Nat} {v v' : Int32} (r : SHE hx hm) (hc : shc c = false) (hc' : (c' == 25 || c' == 26 || c' == 27) = false) : SHE (setI hx c j v) (setI hm c' j' v') := by
  simp only [Bool.or_eq_false_iff, beq_eq_false_iff_ne] at hc'
  exact r.e (sh_w hc) (setI_w (Ne.symm hc'.1.1)) (setI_w (Ne.symm hc'.1.2)) (setI_w (Ne.symm hc'.2))
theorem SHE.px {hx hm : HS} {c j : Nat} {v : Int32} (r : SHE hx hm) (hc : shc c = false) : SHE (setI hx c j v) hm := r.e (sh_w hc) rfl rfl rfl
theorem SHE.rw_ {hx hm : HS} {c c' : Nat} {f f' : Nat → Int32} (r : SHE hx hm) (hc : shc c = false) (hc' : (c' == 25 || c' == 26 || c' == 27) = false) : SHE (setR hx c f) (setR hm c' f') := by
  simp only [Bool.or_eq_false_iff, beq_eq_false_iff_ne] at hc'
  refine r.e (fun a ha => ?_) ?_ ?_ ?_
  · rw [rdR, if_neg (fun q => by rw [q, hc] at ha; cases ha)]
  · rw [rdR, if_neg (Ne.symm hc'.1.1)]
  · rw [rdR, if_neg (Ne.symm hc'.1.2)]
  · rw [rdR, if_neg (Ne.symm hc'.2)]
theorem INV.b1 {hx hm : HS} (r : REL hx hm) : hm.1 0 0 = hx.1 1 5 := r.s ((1, 5), 0) (by decide)
theorem INV.b2 {hx hm : HS} (r : REL hx hm) : hm.1 0 6 = hx.1 2 5 := r.s ((2, 5), 6) (by decide)
theorem INV.b3 {hx hm : HS} (r : REL hx hm) : hm.1 0 27 = hx.1 3 7 := r.s ((3, 7), 27) (by decide)
theorem INV.b4 {hx hm : HS} (r : REL hx hm) : hm.1 0 12 = hx.1 0 11 := r.s ((0, 11), 12) (by decide)
theorem INV.b5 {hx hm : HS} (r : REL hx hm) : hm.1 0 17 = hx.1 4 1 := r.s ((4, 1), 17) (by decide)
theorem INV.b6 {hx hm : HS} (r : REL hx hm) : hm.1 0 22 = hx.1 4 2 := r.s ((4, 2), 22) (by decide)
theorem INV.b7 {hx hm : HS} (r : REL hx hm) : hm.1 0 43 = hx.1 0 12 := r.s ((0, 12), 43) (by decide)
theorem lt_cap {N m : Nat} {x : Int32} (e : x = nI N) (h : N ≤ m) (hm : m < 2 ^ 31) : (x < nI m ↔ N < m) ∧ (x = nI m ↔ N = m) := by
  subst e
  exact ⟨nI_ltI (by omega) hm, nI_eq (by omega) hm⟩
theorem XW.nm {h : HS} {N T Wn j : Nat} {a : Int32} (H : XW h N T Wn) (hN : N < 12) : XW (setI (setI h 16 j a) 1 5 (h.1 1 5 + 1)) (N + 1) T Wn := by
  obtain ⟨h1, h2, h3, h4, h5, h6, h7, h8, h9⟩ := H
  refine ⟨⟨?_, by omega⟩, h2, h3, h4, h5, h6, h7, h8, h9⟩
  rw [rdI, if_pos ⟨rfl, rfl⟩, h1.1, nI_1]
/-- name -/
theorem jn_name {hx hm : HS} (v : INV hx hm) (a : Int32) : (nameF hx a).1 = (nameM hm a).1 ∧ INV (nameF hx a).2 (nameM hm a).2 := by
  obtain ⟨⟨N, T, Wn, H⟩, r, s, l, b⟩ := v
  unfold nameF nameM enF
  by_cases q : 0 ≤ a ∧ a ≤ 999
  · rw [if_pos q, if_pos q, INV.b1 r]
    have c : (hx.1 1 5 < 12 ↔ N < 12) ∧ (hx.1 1 5 = 12 ↔ N = 12) := lt_cap H.1.1 H.1.2 (by decide)
    by_cases z : N = 12
    · rw [if_neg (fun y => by have := c.1.mp y; omega), if_pos (c.2.mpr z)]
      exact ⟨rfl, ⟨N, T, Wn, H⟩, r, s, l, b⟩
    · have hN : N < 12 := by have := H.1.2; omega
      rw [if_pos (c.1.mpr hN), if_neg (fun y => z (c.2.mp y))]
      refine ⟨(Int32.add_sub_cancel _ _).symm, ⟨N + 1, T, Wn, H.nm hN⟩, (r.pt (c := 16) (c' := 1) (by decide) rfl).sc (c := 1) (by decide) rfl, (s.pt rfl rfl).pt rfl rfl, l, b⟩
  · rw [if_neg q, if_neg q]
    exact ⟨rfl, ⟨N, T, Wn, H⟩, r, s, l, b⟩
/-- seed -/
theorem jn_seed {hx hm : HS} (v : INV hx hm) (a c : Int32) : (seedF hx a c).1 = (seedM hm a c).1 ∧ INV (seedF hx a c).2 (seedM hm a c).2 := by
  obtain ⟨⟨N, T, Wn, H⟩, r, s, l, b⟩ := v
  unfold seedF seedM
  rw [INV.b1 r, r.r (17, 2) (by decide)]
  by_cases q : 0 ≤ a ∧ a ≤ hx.1 1 5 - 1
  · rw [if_pos q, if_pos q]
    exact ⟨rfl, ⟨N, T, Wn, H.pt rfl⟩, r.pt (c := 17) (c' := 2) (by decide) rfl, s.pt rfl rfl, l, b⟩
  · rw [if_neg q, if_neg q]
    exact ⟨rfl, ⟨N, T, Wn, H⟩, r, s, l, b⟩
theorem plV_eq {hx hm : HS} (r : REL hx hm) (a : Nat) : plV (vX hx) a = plV hm.1 a := by
  show hx.1 20 a * hx.1 11 7 / 100 = hm.1 5 a * hm.1 11 7 / 100
  rw [r.r (20, 5) (by decide), r.r (11, 11) (by decide)]
/-- pledge -/
theorem jn_pledge {hx hm : HS} (v : INV hx hm) (a c : Int32) : (pledF hx a c).1 = (pledM hm a c).1 ∧ INV (pledF hx a c).2 (pledM hm a c).2 := by
  obtain ⟨⟨N, T, Wn, H⟩, r, s, l, b⟩ := v
  have e3 : hm.1 3 = hx.1 18 := r.r (18, 3) (by decide)
  have e5 : hm.1 5 = hx.1 20 := r.r (20, 5) (by decide)
  unfold pledF pledM
  rw [INV.b1 r, e3, e5]
  by_cases q : (0 ≤ a ∧ a ≤ hx.1 1 5 - 1) ∧ (1 ≤ c ∧ c ≤ 999)
  · rw [if_pos q, if_pos q]
    by_cases z : hx.1 18 a.toNatClampNeg = 0
    · rw [if_pos z, if_pos z]
      have r2 : REL (setI hx 20 a.toNatClampNeg (hx.1 20 a.toNatClampNeg + c)) (setI hm 5 a.toNatClampNeg (hx.1 20 a.toNatClampNeg + c)) := r.pt (by decide) rfl
      exact ⟨plV_eq r2 _, ⟨N, T, Wn, H.pt rfl⟩, r2, s.pt rfl rfl, l, b⟩
    · rw [if_neg z, if_neg z]
      exact ⟨rfl, ⟨N, T, Wn, H⟩, r, s, l, b⟩
  · rw [if_neg q, if_neg q]
    exact ⟨rfl, ⟨N, T, Wn, H⟩, r, s, l, b⟩
theorem XW.ti {h : HS} {N T Wn j : Nat} {a b c e z : Int32} (H : XW h N T Wn) (hT : T < 24) (ha : vp_in a 12) (hb : vp_in b 12) (he : vp_in e 4) : XW (setI (setI (setI (setI (setI (setI h 21 j a) 22 j b) 23 j c) 24 j e) 25 j z) 2 5 (h.1 2 5 + 1)) N (T + 1) Wn := by
  obtain ⟨h1, h2, h3, h4, h5, h6, h7, h8, h9⟩ := H
  refine ⟨h1, ⟨?_, by omega⟩, h3, fun t => ?_, fun t => ?_, fun t => ?_, h7, h8, h9⟩
  · rw [rdI, if_pos ⟨rfl, rfl⟩, h2.1, nI_1]
  · show vp_in ((setI h 21 j a).1 21 t) 12
    rw [rdI]
    split
    · exact ha
    · exact h4 t
  · show vp_in ((setI (setI h 21 j a) 22 j b).1 22 t) 12
    rw [rdI]
    split
    · exact hb
    · exact h5 t
  · show vp_in ((setI (setI (setI (setI h 21 j a) 22 j b) 23 j c) 24 j e).1 24 t) 4
    rw [rdI]
    split
    · exact he
    · exact h6 t
/-- tie -/
theorem jn_tie {hx hm : HS} (v : INV hx hm) (a c d e : Int32) : (tieF hx a c d e).1 = (tieM hm a c d e).1 ∧ INV (tieF hx a c d e).2 (tieM hm a c d e).2 := by
  obtain ⟨⟨N, T, Wn, H⟩, r, s, l, b⟩ := v
  have e3 : hm.1 3 = hx.1 18 := r.r (18, 3) (by decide)
  unfold tieF tieM tenF
  rw [INV.b1 r, INV.b2 r, INV.b4 r, e3]
  by_cases q : ((0 ≤ a ∧ a ≤ hx.1 1 5 - 1) ∧ (0 ≤ c ∧ c ≤ hx.1 1 5 - 1) ∧ ¬ a = c) ∧ (1 ≤ d ∧ d ≤ 999) ∧ (0 ≤ e ∧ e ≤ 3)
  · rw [if_pos q, if_pos q]
    have k : (hx.1 2 5 < 24 ↔ T < 24) ∧ (hx.1 2 5 = 24 ↔ T = 24) := lt_cap H.2.1.1 H.2.1.2 (by decide)
    by_cases z : T = 24
    · rw [if_neg (fun y => by have := k.1.mp y; omega), if_pos (k.2.mpr z)]
      exact ⟨rfl, ⟨N, T, Wn, H⟩, r, s, l, b⟩
    · have hT : T < 24 := by have := H.2.1.2; omega
      rw [if_pos (k.1.mpr hT), if_neg (fun y => z (k.2.mp y))]
      by_cases u : hx.1 18 a.toNatClampNeg = 0 ∧ hx.1 18 c.toNatClampNeg = 0
      · rw [if_pos u, if_pos u, if_pos (k.1.mpr hT)]
        refine ⟨(Int32.add_sub_cancel _ _).symm, ⟨N, T + 1, Wn, H.ti hT (inN H.1.1 H.1.2 (by decide) q.1.1) (inN H.1.1 H.1.2 (by decide) q.1.2.1) (inB (M := 3) (by decide) q.2.2)⟩, (((((r.pt (c := 21) (c' := 6) (by decide) rfl).pt (c := 22) (c' := 7) (by decide) rfl).pt (c := 23) (c' := 8) (by decide) rfl).pt (c := 24) (c' := 9) (by decide) rfl).pt (c := 25) (c' := 10) (by decide) rfl).sc (c := 2) (by decide) rfl, (((((s.pt rfl rfl).pt rfl rfl).pt rfl rfl).pt rfl rfl).pt rfl rfl).pt rfl rfl, l, b⟩
      · rw [if_neg u, if_neg u]
        exact ⟨rfl, ⟨N, T, Wn, H⟩, r, s, l, b⟩
  · rw [if_neg q, if_neg q]
    exact ⟨rfl, ⟨N, T, Wn, H⟩, r, s, l, b⟩
/-- renew -/
theorem jn_renew {hx hm : HS} (v : INV hx hm) (a : Int32) : (renF hx a).1 = (renM hm a).1 ∧ INV (renF hx a).2 (renM hm a).2 := by
  obtain ⟨⟨N, T, Wn, H⟩, r, s, l, b⟩ := v
  have e3 : hm.1 3 = hx.1 18 := r.r (18, 3) (by decide)
  have e6 : hm.1 6 = hx.1 21 := r.r (21, 6) (by decide)
  have e7 : hm.1 7 = hx.1 22 := r.r (22, 7) (by decide)
  have e10 : hm.1 10 = hx.1 25 := r.r (25, 10) (by decide)
  unfold renF renM
  rw [INV.b2 r, INV.b4 r, e3, e6, e7, e10, show vX hx 3 = hx.1 18 from rfl, show vX hx 6 = hx.1 21 from rfl, show vX hx 7 = hx.1 22 from rfl]
  by_cases q : 0 ≤ a ∧ a ≤ hx.1 2 5 - 1
  · rw [if_pos q, if_pos q]
    by_cases z : ¬ hx.1 18 (hx.1 21 a.toNatClampNeg).toNatClampNeg = 0 ∨ ¬ hx.1 18 (hx.1 22 a.toNatClampNeg).toNatClampNeg = 0
    · rw [if_pos z, if_pos z]
      exact ⟨rfl, ⟨N, T, Wn, H⟩, r, s, l, b⟩
    · rw [if_neg z, if_neg z]
      exact ⟨rfl, ⟨N, T, Wn, H.pt rfl⟩, r.pt (c := 25) (c' := 10) (by decide) rfl, s.pt rfl rfl, l, b⟩
  · rw [if_neg q, if_neg q]
    exact ⟨rfl, ⟨N, T, Wn, H⟩, r, s, l, b⟩
/-- day -/
theorem jn_day {hx hm : HS} (v : INV hx hm) (a : Int32) : (dayF hx a).1 = (dayM hm a).1 ∧ INV (dayF hx a).2 (dayM hm a).2 := by
  obtain ⟨⟨N, T, Wn, H⟩, r, s, l, b⟩ := v
  unfold dayF dayM
  rw [INV.b4 r]
  by_cases q : hx.1 0 11 ≤ a ∧ a ≤ 9999
  · rw [if_pos q, if_pos q]
    exact ⟨rfl, ⟨N, T, Wn, H.pt rfl⟩, r.sc (c := 0) (by decide) rfl, s.pt rfl rfl, l, b⟩
  · rw [if_neg q, if_neg q]
    exact ⟨rfl, ⟨N, T, Wn, H⟩, r, s, l, b⟩
/-- end -/
theorem jn_end {hx hm : HS} (v : INV hx hm) (a : Int32) : (endF hx a).1 = (endM hm a).1 ∧ INV (endF hx a).2 (endM hm a).2 := by
  obtain ⟨⟨N, T, Wn, H⟩, r, s, ⟨L, l1, l2⟩, b⟩ := v
  unfold endF endM
  rw [INV.b5 r]
  by_cases q : 0 ≤ a ∧ a ≤ hx.1 4 1
  · rw [if_pos q, if_pos q]
    refine ⟨rfl, ⟨N, T, Wn, H.pt rfl⟩, r.sc (c := 4) (by decide) rfl, s.pt rfl rfl, ?_, b⟩
    obtain ⟨j, hj, rfl⟩ := nI_of (Int32.not_lt.mpr q.1)
    rw [l2] at q
    have := (nI_leI hj (by omega)).mp q.2
    exact ⟨j, by omega, by rw [rdI, if_pos ⟨rfl, rfl⟩]⟩
  · rw [if_neg q, if_neg q]
    exact ⟨rfl, ⟨N, T, Wn, H⟩, r, s, ⟨L, l1, l2⟩, b⟩
/-- made -/
theorem st_eq {hx hm : HS} (r : REL hx hm) (a : Int32) (T : Nat) : stM hm a T = stF hx a T := by
  unfold stM stF
  rw [r.r (24, 9) (by decide), r.r (22, 7) (by decide), r.r (18, 3) (by decide), r.r (21, 6) (by decide)]
theorem fin_eq {hx hm : HS} (r : REL hx hm) (s : Int32) (i : Nat) : finM hm s i = finR hx s i := by
  unfold finM finR
  rw [r.r (19, 4) (by decide), r.r (11, 11) (by decide), INV.b4 r]
theorem XW.rw_ {h : HS} {N T Wn c : Nat} {f : Nat → Int32} (H : XW h N T Wn) (hc : (c == 1 || c == 2 || c == 3 || c == 21 || c == 22 || c == 24 || c == 26 || c == 27 || c == 38) = false) : XW (setR h c f) N T Wn := by
  refine H.e (fun a ha => ?_)
  rw [rdR, if_neg]
  intro q
  subst q
  rcases ha with rfl | rfl | rfl | rfl | rfl | rfl | rfl | rfl | rfl <;> cases hc
theorem jn_made {hx hm : HS} (v : INV hx hm) (a : Int32) {N T Wn : Nat} (H : XW hx N T Wn) : ((madF hx a N T).1 = (madM hm a N T).1 ∨ ∃ s, (madF hx a N T).1 = bcV s ∧ (madM hm a N T).1 = bitsV s ∧ s = stF (setI hx 18 a.toNatClampNeg (vp_nar .boolean 1)) a T) ∧ INV (madF hx a N T).2 (madM hm a N T).2 := by
  obtain ⟨-, r, s, l, b⟩ := v
  have e3 : hm.1 3 = hx.1 18 := r.r (18, 3) (by decide)
  unfold madF madM
  rw [INV.b1 r, e3]
  by_cases q : 0 ≤ a ∧ a ≤ hx.1 1 5 - 1
  · rw [if_pos q, if_pos q]
    by_cases z : hx.1 18 a.toNatClampNeg = 0
    · rw [if_pos z, if_pos z]
      have r2 : REL (setI hx 18 a.toNatClampNeg (vp_nar .boolean 1)) (setI hm 3 a.toNatClampNeg (vp_nar .boolean 1)) := r.pt (by decide) rfl
      refine ⟨Or.inr ⟨_, rfl, by rw [st_eq r2], rfl⟩, ⟨N, T, Wn, (H.pt rfl).rw_ rfl⟩, ?_, (s.pt rfl rfl).rw_ rfl rfl, l, b⟩
      refine r2.row (c := 19) (by decide) ?_
      rw [fin_eq r2, st_eq r2]
    · rw [if_neg z, if_neg z]
      exact ⟨Or.inl rfl, ⟨N, T, Wn, H⟩, r, s, l, b⟩
  · rw [if_neg q, if_neg q]
    exact ⟨Or.inl rfl, ⟨N, T, Wn, H⟩, r, s, l, b⟩
theorem and255 (x : Int32) : ¬ x &&& 255 < 0 := by
  rw [pk_and x 8 (by decide)]
  exact nI_pos (by have := Nat.mod_lt x.toBitVec.toNat (show 0 < 2 ^ 8 by decide); omega)
theorem byt_eq (x : Int64) {k : Nat} (hk : k < 8) : bytM x (56 - 8 * nI k) = byt x (56 - 8 * nI k) := by
  have hc : ∀ k : Fin 8, ((56 - 8 * nI k.1).toInt64 &&& 63) = lN (56 - 8 * k.1) ∧ ((56 - 8 * nI k.1).toInt64.toUInt64 &&& Int64.toUInt64 63) = UInt64.ofNat (56 - 8 * k.1) := by decide +kernel
  obtain ⟨h1, h2⟩ := hc ⟨k, hk⟩
  unfold bytM byt
  rw [h1, h2]
  generalize hn : 56 - 8 * k = n
  have hn2 : n ≤ 56 := by omega
  apply Int32.toBitVec_inj.mp
  apply BitVec.eq_of_getLsbD_eq
  intro i hi
  rw [Int64.toBitVec_toInt32, Int64.toBitVec_and, Int64.toBitVec_shiftRight, Int32.toBitVec_and, Int64.toBitVec_toInt32]
  have e1 : (lN n).toBitVec.smod 64 = BitVec.ofNat 64 n := by
    have q : ∀ a : Fin 57, (lN a.1).toBitVec.smod 64 = BitVec.ofNat 64 a.1 := by decide +kernel
    exact q ⟨n, by omega⟩
  have e2 : ((x.toUInt64 >>> UInt64.ofNat n).toInt64).toBitVec = x.toBitVec >>> n := by
    have q : ∀ a : Fin 57, (UInt64.ofNat a.1).toBitVec % 64 = BitVec.ofNat 64 a.1 := by decide +kernel
    show (x.toUInt64 >>> UInt64.ofNat n).toBitVec = _
    rw [UInt64.toBitVec_shiftRight, q ⟨n, by omega⟩]
    show x.toBitVec >>> (BitVec.ofNat 64 n) = _
    rw [BitVec.ushiftRight_eq', BitVec.toNat_ofNat, Nat.mod_eq_of_lt (by omega)]
  rw [e1, e2]
  rw [BitVec.sshiftRight_eq', BitVec.toNat_ofNat, Nat.mod_eq_of_lt (show n < 2 ^ 64 by omega)]
  simp only [BitVec.getLsbD_signExtend, BitVec.getLsbD_and, BitVec.getLsbD_ushiftRight, BitVec.getLsbD_sshiftRight]
  have h8 : ∀ j : Fin 32, (255 : Int64).toBitVec.getLsbD j.1 = decide (j.1 < 8) ∧ (255 : Int32).toBitVec.getLsbD j.1 = decide (j.1 < 8) := by decide +kernel
  rw [(h8 ⟨i, hi⟩).1, (h8 ⟨i, hi⟩).2]
  by_cases q : i < 8
  · simp [q, hi, show ¬ 64 ≤ i by omega, show n + i < 64 by omega, show i < 64 by omega]
  · simp [q]
    intro _ h64
    omega
theorem XW.p4 {h : HS} {N T Wn j : Nat} {v : Int32} (H : XW h N T Wn) : XW (setI h 4 j v) N T Wn := H.pt rfl
theorem fd_jn {hx hm : HS} {N T Wn L : Nat} (H : XW hx N T Wn) (r : REL hx hm) (s : SHE hx hm) (b : ∀ j, ¬ hx.1 33 j < 0) (l2 : hx.1 4 1 = nI L) (x : Int64) : ∀ k, k ≤ 8 → XW (fdX hx x k) N T Wn ∧ REL (fdX hx x k) (fdM hm x k) ∧ SHE (fdX hx x k) (fdM hm x k) ∧ ∀ j, ¬ (fdX hx x k).1 33 j < 0
  | 0, _ => ⟨H, r, s, b⟩
  | k + 1, hk => by
    obtain ⟨H1, r1, s1, b1⟩ := fd_jn H r s b l2 x k (by omega)
    have e : (fdM hm x k).1 0 17 = (fdX hx x k).1 4 1 := INV.b5 r1
    unfold fdX fdM
    rw [e]
    refine ⟨(H1.pt rfl).pt rfl, (r1.pt (c := 33) (c' := 14) (by decide) (byt_eq x (by omega))).sc (c := 4) (by decide) rfl, (s1.pt rfl rfl).pt rfl rfl, fun j => ?_⟩
    rw [setI_w (by decide), rdI]
    split
    · exact and255 _
    · exact b1 j
/-- feed -/
theorem jn_feed {hx hm : HS} (v : INV hx hm) (x : Int64) : (feedF hx x).1 = (feedM hm x).1 ∧ INV (feedF hx x).2 (feedM hm x).2 := by
  obtain ⟨⟨N, T, Wn, H⟩, r, s, ⟨L, l1, l2⟩, b⟩ := v
  unfold feedF feedM
  have e17 := INV.b5 r
  have c1 : hx.1 4 1 ≤ 192 ↔ L ≤ 192 := by
    rw [l2]
    exact nI_leI (b := 192) (by omega) (by decide)
  have c2 : hm.1 0 17 + 8 ≤ 200 ↔ L + 8 ≤ 200 := by
    rw [e17, l2, show (8 : Int32) = nI 8 from rfl, nI_add]
    exact nI_leI (b := 200) (by omega) (by decide)
  by_cases q : L ≤ 192
  · rw [if_pos (c1.mpr q), if_pos (c2.mpr (by omega))]
    obtain ⟨H1, r1, s1, b1⟩ := fd_jn H r s b l2 x 8 (Nat.le_refl _)
    exact ⟨(INV.b5 r1).symm, ⟨N, T, Wn, H1⟩, r1, s1, ⟨L + 8, by omega, fdX_l hx x l2 8⟩, b1⟩
  · rw [if_neg (fun z => q (c1.mp z)), if_neg (fun z => q (by have := c2.mp z; omega))]
    exact ⟨rfl, ⟨N, T, Wn, H⟩, r, s, ⟨L, l1, l2⟩, b⟩
theorem shc_nwd : ∀ c, shc c = true → nwd c = true := by
  intro c hc
  simp only [shc, Bool.or_eq_true, beq_iff_eq] at hc
  rcases hc with ((((((rfl | rfl) | rfl) | rfl) | rfl) | rfl) | rfl) | rfl <;> rfl
theorem say_o {h : HS} {a b c e : Int32} {q : Nat} (hq : (q == 0 || q == 18 || q == 19 || q == 20 || q == 21 || q == 22) = false) : (sayM h a b c e).1 q = h.1 q := by
  simp only [Bool.or_eq_false_iff, beq_eq_false_iff_ne] at hq
  obtain ⟨⟨⟨⟨⟨q0, q1⟩, q2⟩, q3⟩, q4⟩, q5⟩ := hq
  unfold sayM
  rw [setI_w q0, setI_w q5, setI_w q4, setI_w q3, setI_w q2, setI_w q1]
/-- a word comes -/
theorem INV.say {hx hm : HS} {a b c e : Int32} {N T Wn : Nat} (v : INV hx hm) (H : XW hx N T Wn) (hw : Wn < 24) (ha : vp_in a 12) (hb : vp_in b 12) : INV (wenF hx a b c e (hx.1 0 11) Wn).2 (sayM hm a b c e) := by
  obtain ⟨-, r, s, ⟨L, l1, l2⟩, by_⟩ := v
  have q : hx.1 3 7 < 24 := by
    rw [H.2.2.1.1]
    exact nI_lt (b := 24) (by omega) (by decide)
  refine ⟨⟨N, T, Wn + 1, wen_XW H ha hb hw⟩, ?_, s.e (fun c hc => wen_o (shc_nwd c hc)) (say_o rfl) (say_o rfl) (say_o rfl), ⟨L, l1, by rw [wen_o (q := 4) rfl]; exact l2⟩, by rw [wen_o (q := 33) rfl]; exact by_⟩
  unfold wenF sayM
  rw [if_pos q, INV.b3 r, INV.b4 r]
  exact (((((((r.xp (c := 32) rfl).pt (c := 26) (c' := 18) (by decide) rfl).pt (c := 27) (c' := 19) (by decide) rfl).xp (c := 31) rfl).pt (c := 28) (c' := 20) (by decide) rfl).pt (c := 29) (c' := 21) (by decide) rfl).pt (c := 30) (c' := 22) (by decide) rfl).sc (c := 3) (by decide) rfl
/-- word -/
theorem jn_word {hx hm : HS} (v : INV hx hm) (a c d e : Int32) {N T Wn : Nat} (H : XW hx N T Wn) : (wordF hx a c d e Wn).1 = (wordM hm a c d e).1 ∧ INV (wordF hx a c d e Wn).2 (wordM hm a c d e).2 := by
  have r := v.2.1
  have e3 : hm.1 3 = hx.1 18 := r.r (18, 3) (by decide)
  have k : (hx.1 3 7 < 24 ↔ Wn < 24) ∧ (hx.1 3 7 = 24 ↔ Wn = 24) := lt_cap H.2.2.1.1 H.2.2.1.2 (by decide)
  unfold wordF wordM refV
  rw [INV.b1 r, INV.b3 r, e3, Int32.add_zero]
  by_cases q : (0 ≤ a ∧ a ≤ hx.1 1 5 - 1) ∧ (0 ≤ c ∧ c ≤ hx.1 1 5 - 1) ∧ ¬ a = c ∧ (0 ≤ d ∧ d ≤ 99) ∧ (0 ≤ e ∧ e ≤ 10)
  · have q2 : ((0 ≤ a ∧ a ≤ hx.1 1 5 - 1) ∧ (0 ≤ c ∧ c ≤ hx.1 1 5 - 1) ∧ ¬ a = c) ∧ (0 ≤ d ∧ d ≤ 99) ∧ (0 ≤ e ∧ e ≤ 10) := ⟨⟨q.1, q.2.1, q.2.2.1⟩, q.2.2.2⟩
    rw [if_pos q, if_pos q2]
    by_cases z : Wn = 24
    · rw [if_neg (show ¬ hx.1 3 7 < 24 from fun y => by have := k.1.mp y; omega), if_pos (k.2.mpr z), if_neg (show ¬ (-3 : Int32) = 0 by decide)]
      exact ⟨rfl, v⟩
    · have hW : Wn < 24 := by have := H.2.2.1.2; omega
      rw [if_pos (k.1.mpr hW), if_neg (fun y => z (k.2.mp y))]
      by_cases u : hx.1 18 a.toNatClampNeg = 0
      · rw [if_pos u, if_pos u, if_pos rfl]
        refine ⟨?_, v.say H hW (inN H.1.1 H.1.2 (by decide) q.1) (inN H.1.1 H.1.2 (by decide) q.2.1)⟩
        unfold wenF
        rw [if_pos (k.1.mpr hW)]
        exact (Int32.add_sub_cancel _ _).symm
      · rw [if_neg u, if_neg u, if_neg (show ¬ (-2 : Int32) = 0 by decide)]
        exact ⟨rfl, v⟩
  · rw [if_neg q, if_neg (show ¬ (((0 ≤ a ∧ a ≤ hx.1 1 5 - 1) ∧ (0 ≤ c ∧ c ≤ hx.1 1 5 - 1) ∧ ¬ a = c) ∧ (0 ≤ d ∧ d ≤ 99) ∧ (0 ≤ e ∧ e ≤ 10)) from fun z => q ⟨z.1.1, z.1.2.1, z.1.2.2, z.2⟩), if_neg (show ¬ (-1 : Int32) = 0 by decide)]
    exact ⟨rfl, v⟩
theorem rp_sh : ∀ p ∈ rp, shc p.1 = false ∧ p.2 ≠ 25 ∧ p.2 ≠ 26 ∧ p.2 ≠ 27 := by decide
theorem sp_sh : ∀ p ∈ sp, shc p.1.1 = false := by decide
theorem REL.sh {hx hm hx' hm' : HS} (r : REL hx hm) (e : ∀ c, shc c = false → hx'.1 c = hx.1 c) (e' : ∀ c, c ≠ 25 → c ≠ 26 → c ≠ 27 → hm'.1 c = hm.1 c) : REL hx' hm' := by
  refine ⟨fun p hp => ?_, fun p hp => ?_⟩
  · obtain ⟨q1, q2, q3, q4⟩ := rp_sh p hp
    rw [e _ q1, e' _ q2 q3 q4]
    exact r.1 p hp
  · rw [e _ (sp_sh p hp), e' 0 (by decide) (by decide) (by decide)]
    exact r.2 p hp
theorem INV.sh {hx hm hx' hm' : HS} (v : INV hx hm) (e : ∀ c, shc c = false → hx'.1 c = hx.1 c) (e' : ∀ c, c ≠ 25 → c ≠ 26 → c ≠ 27 → hm'.1 c = hm.1 c) (s : SHE hx' hm') : INV hx' hm' := by
  obtain ⟨⟨N, T, Wn, H⟩, r, -, ⟨L, l1, l2⟩, b⟩ := v
  refine ⟨⟨N, T, Wn, H.e (fun c hc => e c ?_)⟩, r.sh e e', s, ⟨L, l1, by rw [e 4 rfl]; exact l2⟩, by rw [e 33 rfl]; exact b⟩
  rcases hc with rfl | rfl | rfl | rfl | rfl | rfl | rfl | rfl | rfl <;> rfl
theorem n7 {j k : Nat} (h : j ≠ k) : 7 + k ≠ 7 + j := by omega
theorem sh_f {c j : Nat} (hj : j < 4) (hc : shc c = false) : c ≠ 7 + j ∧ c ≠ 7 + j + 33 := by
  refine ⟨fun q => ?_, fun q => ?_⟩
  · rw [q, (shc_k j hj).1] at hc
    cases hc
  · rw [q, (shc_k j hj).2] at hc
    cases hc
/-- sheet -/
theorem jn_sheet {hx hm : HS} (v : INV hx hm) (a b c : Int32) : (sheetF hx a b c).1 = (shtM hm a b c).1 ∧ INV (sheetF hx a b c).2 (shtM hm a b c).2 := by
  unfold sheetF shtM
  by_cases q : (0 ≤ a ∧ a ≤ 3) ∧ (0 ≤ b ∧ b ≤ 2) ∧ c ≤ 48
  · rw [if_pos q, if_pos (show ((0 ≤ a ∧ a ≤ 3) ∧ (0 ≤ b ∧ b ≤ 2)) ∧ c ≤ 48 from ⟨⟨q.1, q.2.1⟩, q.2.2⟩)]
    by_cases z : 0 ≤ c
    · rw [if_pos z, if_pos z]
      refine ⟨rfl, ?_⟩
      obtain ⟨j, hj, rfl⟩ := sh_in q.1
      rw [nI_clamp (show j < 2 ^ 31 by omega)]
      obtain ⟨n, hn, rfl⟩ := nI_of (Int32.not_lt.mpr z)
      have hn2 := (nI_leI (b := 48) hn (by decide)).mp q.2.2
      obtain ⟨m, hm2, rfl⟩ := vp_in_of (inB (M := 2) (by decide) q.2.1) (by decide)
      have nm1 : ¬ nI n = -1 := by
        have u : ∀ x : Fin 49, ¬ nI x.1 = -1 := by decide
        exact u ⟨n, by omega⟩
      have nm4 : ¬ nI m = -4 := nI_n4 (by omega)
      unfold rnwF
      refine v.sh (fun d hd => ?_) (fun d d1 d2 d3 => ?_) (fun k hk => ?_)
      · obtain ⟨u1, u2⟩ := sh_f hj hd
        rw [setI_w u1, setI_w u1, rdR, if_neg u2]
      · rw [rdR, if_neg d3, setI_w d2, setI_w d1]
      · obtain ⟨s1, s2, s3, s4, s5⟩ := v.2.2.1 k hk
        have w25 : (setR (setI (setI hm 25 j (nI m)) 26 j (nI n)) 27 (zr48 (hm.1 27) j 48)).1 25 = upd (hm.1 25) j (nI m) := by
          rw [rdR, if_neg (by decide), setI_w (by decide)]
          rfl
        have w26 : (setR (setI (setI hm 25 j (nI m)) 26 j (nI n)) 27 (zr48 (hm.1 27) j 48)).1 26 = upd (hm.1 26) j (nI n) := by
          rw [rdR, if_neg (by decide)]
          rfl
        have w27 : (setR (setI (setI hm 25 j (nI m)) 26 j (nI n)) 27 (zr48 (hm.1 27) j 48)).1 27 = zr48 (hm.1 27) j 48 := rfl
        rw [w25, w26, w27]
        by_cases y : k = j
        · subst y
          have x1 : (setI (setI (setR hx (7 + k + 33) (fil (hx.1 (7 + k + 33)) 48 0)) (7 + k) 1 (nI m)) (7 + k) 2 (nI n)).1 (7 + k) 1 = nI m := by
            rw [rdI, if_neg (by simp), rdI, if_pos ⟨rfl, rfl⟩]
          have x2 : (setI (setI (setR hx (7 + k + 33) (fil (hx.1 (7 + k + 33)) 48 0)) (7 + k) 1 (nI m)) (7 + k) 2 (nI n)).1 (7 + k) 2 = nI n := by
            rw [rdI, if_pos ⟨rfl, rfl⟩]
          have x3 : (setI (setI (setR hx (7 + k + 33) (fil (hx.1 (7 + k + 33)) 48 0)) (7 + k) 1 (nI m)) (7 + k) 2 (nI n)).1 (7 + k + 33) = fil (hx.1 (7 + k + 33)) 48 0 := by
            rw [setI_w (by omega), setI_w (by omega), rdR, if_pos rfl]
          rw [x1, x2, x3, if_neg nm1]
          refine ⟨if_pos rfl, fun _ => if_pos rfl, fun i hi => ?_, nm4, Or.inr ⟨n, by omega, x2⟩⟩
          rw [zr48, if_pos (by omega), fil, if_pos hi]
        · have x1 : (setI (setI (setR hx (7 + j + 33) (fil (hx.1 (7 + j + 33)) 48 0)) (7 + j) 1 (nI m)) (7 + j) 2 (nI n)).1 (7 + k) = hx.1 (7 + k) := by
            rw [setI_w (by omega), setI_w (by omega), rdR, if_neg (by omega)]
          have x3 : (setI (setI (setR hx (7 + j + 33) (fil (hx.1 (7 + j + 33)) 48 0)) (7 + j) 1 (nI m)) (7 + j) 2 (nI n)).1 (7 + k + 33) = hx.1 (7 + k + 33) := by
            rw [setI_w (by omega), setI_w (by omega), rdR, if_neg (by omega)]
          unfold SZ at s5 ⊢
          rw [x1, x3]
          refine ⟨(if_neg y).trans s1, fun u => (if_neg y).trans (s2 u), fun i hi => ?_, s4, s5⟩
          rw [zr48, if_neg (by omega)]
          exact s3 i hi
    · rw [if_neg z, if_neg z]
      exact ⟨rfl, v⟩
  · rw [if_neg q, if_neg (show ¬ (((0 ≤ a ∧ a ≤ 3) ∧ (0 ≤ b ∧ b ≤ 2)) ∧ c ≤ 48) from fun z => q ⟨z.1.1, z.1.2, z.2⟩)]
    exact ⟨rfl, v⟩
/-- lay -/
theorem jn_lay {hx hm : HS} (v : INV hx hm) (a b c : Int32) : (layF hx a b c).1 = (layM_ hm a b c).1 ∧ INV (layF hx a b c).2 (layM_ hm a b c).2 := by
  unfold layF layM_
  by_cases q : 0 ≤ a ∧ a ≤ 3
  · rw [if_pos q, if_pos q]
    obtain ⟨j, hj, rfl⟩ := sh_in q
    rw [nI_clamp (show j < 2 ^ 31 by omega)]
    obtain ⟨s1, s2, s3, s4, s5⟩ := v.2.2.1 j hj
    unfold faV putF
    by_cases z : hx.1 (7 + j) 2 = -1
    · rw [if_pos z] at s1
      rw [if_pos z, if_neg (show ¬ (1 : Int32) = 0 by decide), if_pos s1]
      exact ⟨by show (-10 - 1 : Int32) = -11; decide, v⟩
    · rw [if_neg z] at s1
      have nl : ¬ hm.1 25 j = -4 := by rw [s1]; exact s4
      rw [if_neg z, if_neg nl, s2 z]
      by_cases y : 0 ≤ b ∧ b ≤ hx.1 (7 + j) 2 - 1
      · rw [if_pos y, if_pos rfl, if_pos y, if_pos y]
        refine ⟨rfl, ?_⟩
        obtain ⟨i, hi, rfl⟩ := vp_in_of (sz_in s5 y) (by decide)
        rw [nI_clamp (show i < 2 ^ 31 by omega), ix48, nI_clamp (show 48 * j + i < 2 ^ 31 by omega), s1]
        have ev : (if hx.1 (7 + j) 1 = 0 then c.toInt8.toInt32 else if hx.1 (7 + j) 1 = 1 then c.toInt16.toInt32 else c) = nrV (hx.1 (7 + j) 1) c := by
          unfold nrV
          have u0 : (hx.1 (7 + j) 1 = 0) = ((hx.1 (7 + j) 1).toInt = 0) := propext ⟨fun h => by rw [h]; rfl, fun h => Int32.toInt_inj.mp (by rw [h]; rfl)⟩
          have u1 : (hx.1 (7 + j) 1 = 1) = ((hx.1 (7 + j) 1).toInt = 1) := propext ⟨fun h => by rw [h]; rfl, fun h => Int32.toInt_inj.mp (by rw [h]; rfl)⟩
          simp only [u0, u1]
        rw [ev]
        refine v.sh (fun d hd => ?_) (fun d d1 d2 d3 => ?_) (fun k hk => ?_)
        · exact setI_w (sh_f hj hd).2
        · exact setI_w d3
        · obtain ⟨t1, t2, t3, t4, t5⟩ := v.2.2.1 k hk
          have w25 : (setI hm 27 (48 * j + i) (nrV (hx.1 (7 + j) 1) c)).1 25 = hm.1 25 := setI_w (by decide)
          have w26 : (setI hm 27 (48 * j + i) (nrV (hx.1 (7 + j) 1) c)).1 26 = hm.1 26 := setI_w (by decide)
          have x1 : (setI hx (7 + j + 33) i (nrV (hx.1 (7 + j) 1) c)).1 (7 + k) = hx.1 (7 + k) := setI_w (by omega)
          unfold SZ at t5 ⊢
          rw [w25, w26, x1]
          refine ⟨t1, t2, fun n hn => ?_, t4, t5⟩
          rw [rdI, rdI]
          by_cases u : k = j ∧ n = i
          · rw [if_pos ⟨rfl, by omega⟩, if_pos ⟨by omega, u.2⟩]
          · rw [if_neg (fun w => u (by omega)), if_neg (fun w => u (by omega))]
            exact t3 n hn
      · rw [if_neg y, if_neg (show ¬ (2 : Int32) = 0 by decide), if_neg y]
        exact ⟨by show (-10 - 2 : Int32) = -12; decide, v⟩
  · rw [if_neg q, if_neg q]
    exact ⟨rfl, v⟩
/-! read -/
theorem ww_c {h : HS} {c : Nat} {b f : Int32} {nn : Nat} (hz : SZ h c) (hn : nn ≤ 12) : (h.1 c 2 = -1 ∧ wwV h c b f (nI nn) = nI 0) ∨ (¬ h.1 c 2 = -1 ∧ ¬ h.1 c 1 = b ∧ wwV h c b f (nI nn) = nI 0) ∨ ∃ z, z ≤ 48 ∧ h.1 c 2 = nI z ∧ h.1 c 1 = b ∧ ((f < 0 ∧ wwV h c b f (nI nn) = nI 0) ∨ ∃ m, m < 2 ^ 31 ∧ f = nI m ∧ ((z < m ∧ wwV h c b f (nI nn) = nI 0) ∨ (m ≤ z ∧ wwV h c b f (nI nn) = nI (min nn ((z - m) / 4))))) := by
  unfold wwV
  by_cases q1 : h.1 c 2 = -1
  · exact Or.inl ⟨q1, if_neg (fun q => q.1 q1)⟩
  · by_cases q2 : h.1 c 1 = b
    · right; right
      rcases hz with e | ⟨z, hz, e⟩
      · exact absurd e q1
      · refine ⟨z, hz, e, q2, ?_⟩
        by_cases q3 : f < 0
        · exact Or.inl ⟨q3, if_neg (fun q => absurd q3 (Int32.not_lt.mpr q.2.2.1))⟩
        · obtain ⟨m, hm, rfl⟩ := nI_of q3
          refine Or.inr ⟨m, hm, rfl, ?_⟩
          rw [e]
          by_cases q4 : m ≤ z
          · right
            refine ⟨q4, ?_⟩
            rw [if_pos ⟨by rw [← e]; exact q1, q2, Int32.not_lt.mp q3, nI_le q4 (by omega)⟩, dv4 z m hz q4]
            by_cases y : (z - m) / 4 < nn
            · rw [if_pos (nI_lt y (by omega)), Nat.min_eq_right (by omega)]
            · rw [if_neg (nI_nlt (by omega) (by omega)), Nat.min_eq_left (by omega)]
          · left
            exact ⟨by omega, if_neg (fun q => q4 ((nI_leI hm (by omega)).mp q.2.2.2))⟩
    · exact Or.inr (Or.inl ⟨q1, q2, if_neg (fun q => q2 q.2.1)⟩)
def cdV (h : HS) (c : Nat) (b : Int32) : Int32 := if h.1 c 2 = -1 then 1 else if h.1 c 1 = b then 2 else 3
theorem cdV_ne (h : HS) (c : Nat) (b : Int32) : ¬ cdV h c b = 0 := by
  unfold cdV
  split
  · decide
  · split <;> decide
/-- how many are whole, and what is found behind them -/
theorem ww_wy {hx hm : HS} {j : Nat} {b f : Int32} {nn : Nat} (s : SHE hx hm) (hj : j < 4) (hn : nn ≤ 12) : ∃ Wk, Wk ≤ nn ∧ wwV hx (7 + j) b f (nI nn) = nI Wk ∧ (∀ q, q < Wk → wyV hm j b f q = 0) ∧ (Wk < nn → wyV hm j b f Wk = cdV hx (7 + j) b) := by
  obtain ⟨s1, s2, s3, s4, s5⟩ := s j hj
  rcases ww_c (b := b) (f := f) s5 hn with ⟨q1, q2⟩ | ⟨q1, q2, q3⟩ | ⟨z, hz, ez, el, q⟩
  · rw [if_pos q1] at s1
    refine ⟨0, Nat.zero_le _, q2, fun q hq => absurd hq (Nat.not_lt_zero _), fun _ => ?_⟩
    refine fst4_v 4 0 (fun d h1 h2 => Or.inr ?_) ⟨0, by decide, by decide, ?_⟩ (cdV_ne _ _ _)
    all_goals (show rfV _ _ _ _ = _; rw [rfV, if_pos s1, cdV, if_pos q1])
  · rw [if_neg q1] at s1
    refine ⟨0, Nat.zero_le _, q3, fun q hq => absurd hq (Nat.not_lt_zero _), fun _ => ?_⟩
    refine fst4_v 4 0 (fun d h1 h2 => Or.inr ?_) ⟨0, by decide, by decide, ?_⟩ (cdV_ne _ _ _)
    all_goals (show rfV _ _ _ _ = _; rw [rfV, if_neg (by rw [s1]; exact s4), if_neg (by rw [s1]; exact q2), cdV, if_neg q1, if_neg q2])
  · have q1 : ¬ hx.1 (7 + j) 2 = -1 := by
      rw [ez]
      have u : ∀ x : Fin 49, ¬ nI x.1 = -1 := by decide
      exact u ⟨z, by omega⟩
    rw [if_neg q1] at s1
    have e26 : hm.1 26 j = nI z := (s2 q1).trans ez
    have ec : cdV hx (7 + j) b = 2 := by rw [cdV, if_neg q1, if_pos el]
    have rf : ∀ p, rfV hm j b p = if p < 0 ∨ ¬ p < (hm.1 26 j).toInt64 then 2 else 0 := fun p => by rw [rfV, if_neg (by rw [s1]; exact s4), if_pos (by rw [s1]; exact el)]
    have r02 : ∀ p, rfV hm j b p = 0 ∨ rfV hm j b p = 2 := fun p => by
      rw [rf]
      split
      · exact Or.inr rfl
      · exact Or.inl rfl
    rw [ec]
    rcases q with ⟨q2, q3⟩ | ⟨m, hm2, rfl, ⟨q2, q3⟩ | ⟨q2, q3⟩⟩
    · refine ⟨0, Nat.zero_le _, q3, fun q hq => absurd hq (Nat.not_lt_zero _), fun _ => ?_⟩
      refine fst4_v 4 0 (fun d h1 h2 => r02 _) ⟨0, by decide, by decide, ?_⟩ (by decide)
      show rfV _ _ _ _ = _
      rw [rf, if_pos (Or.inl (pos_neg q2))]
    · refine ⟨0, Nat.zero_le _, q3, fun q hq => absurd hq (Nat.not_lt_zero _), fun _ => ?_⟩
      refine fst4_v 4 0 (fun d h1 h2 => r02 _) ⟨0, by decide, by decide, ?_⟩ (by decide)
      show rfV _ _ _ _ = _
      rw [rf, if_pos ((rf_n e26 hz hm2 (by omega) (by omega)).mpr (by omega))]
    · refine ⟨min nn ((z - m) / 4), Nat.min_le_left _ _, q3, fun q hq => ?_, fun hlt => ?_⟩
      · refine fst4_z 4 0 (fun d h1 h2 => ?_)
        show rfV _ _ _ _ = _
        rw [rf, if_neg (fun y => ?_)]
        have := (rf_n e26 hz hm2 (by omega) (by omega)).mp y
        omega
      · have e : min nn ((z - m) / 4) = (z - m) / 4 := by omega
        rw [e] at hlt ⊢
        refine fst4_v 4 0 (fun d h1 h2 => r02 _) ⟨3, by decide, by decide, ?_⟩ (by decide)
        show rfV _ _ _ _ = _
        rw [rf, if_pos ((rf_n e26 hz hm2 (by omega) (by omega)).mpr (by omega))]
/-- both look at a word alike -/
theorem chk_eq {hx hm : HS} {j m q : Nat} (v : INV hx hm) (hj : j < 4) (hq : m + 4 * q + 3 < 48) : chkV hx (7 + j) (m + 4 * q) (nI q) = 0 ↔ ckM hm j m q := by
  have r := v.2.1
  obtain ⟨-, -, s3, -, -⟩ := v.2.2.1 j hj
  have c0 : hm.1 27 (48 * j + m + 4 * q) = hx.1 (7 + j + 33) (m + 4 * q) := by rw [show 48 * j + m + 4 * q = 48 * j + (m + 4 * q) by omega]; exact s3 _ (by omega)
  have c1 : hm.1 27 (48 * j + m + 4 * q + 1) = hx.1 (7 + j + 33) (m + 4 * q + 1) := by rw [show 48 * j + m + 4 * q + 1 = 48 * j + (m + 4 * q + 1) by omega]; exact s3 _ (by omega)
  have c2 : hm.1 27 (48 * j + m + 4 * q + 2) = hx.1 (7 + j + 33) (m + 4 * q + 2) := by rw [show 48 * j + m + 4 * q + 2 = 48 * j + (m + 4 * q + 2) by omega]; exact s3 _ (by omega)
  have c3 : hm.1 27 (48 * j + m + 4 * q + 3) = hx.1 (7 + j + 33) (m + 4 * q + 3) := by rw [show 48 * j + m + 4 * q + 3 = 48 * j + (m + 4 * q + 3) by omega]; exact s3 _ (by omega)
  unfold chkV ckM refV
  rw [c0, c1, c2, c3, INV.b1 r, INV.b3 r, r.r (18, 3) (by decide), nI_1, show nI (m + 4 * q) + 2 = nI (m + 4 * q + 2) from nI_add _ 2, show nI (m + 4 * q) + 3 = nI (m + 4 * q + 3) from nI_add _ 3, nI_clamp (by omega), nI_clamp (by omega), nI_clamp (by omega), nI_clamp (by omega)]
  constructor
  · intro y
    split at y
    · rename_i y1
      split at y
      · rename_i y2
        split at y
        · rename_i y3
          exact ⟨⟨y1.1.1, y1.1.2.1, y1.1.2.2, y1.2⟩, y3, y2⟩
        · exact absurd y (by decide)
      · exact absurd y (by decide)
    · exact absurd y (by decide)
  · rintro ⟨⟨y1, y2, y3, y4⟩, y5, y6⟩
    rw [if_pos ⟨⟨y1, y2, y3⟩, y4⟩, if_pos y6, if_pos y5]
theorem rdGo_no {h : HS} {c m Wk : Nat} {dn : Int32 × HS} {i : Nat} (hi : ¬ chkV h c (m + 4 * i) (nI i) = 0) : ∀ n, i + n ≥ Wk → n ≤ Wk → Wk - n ≤ i → i < Wk → (∀ q, q < i → chkV h c (m + 4 * q) (nI q) = 0) → (rdGo h c m Wk dn n).2 = h
  | 0, h1, h2, h3, h4, _ => by omega
  | n + 1, h1, h2, h3, h4, ha => by
    unfold rdGo
    by_cases q : Wk - (n + 1) = i
    · rw [q, if_neg hi]
    · rw [if_pos (ha _ (by omega))]
      exact rdGo_no hi n (by omega) (by omega) (by omega) h4 ha
theorem rdGo_ok {h : HS} {c m Wk : Nat} {dn : Int32 × HS} (ha : ∀ q, q < Wk → chkV h c (m + 4 * q) (nI q) = 0) : ∀ n, n ≤ Wk → rdGo h c m Wk dn n = dn
  | 0, _ => rfl
  | n + 1, hn => by
    unfold rdGo
    rw [if_pos (ha _ (by omega))]
    exact rdGo_ok ha n (by omega)
theorem rs_jn {hx hm : HS} {j m Wk N T Wn : Nat} (v : INV hx hm) (H : XW hx N T Wn) (hj : j < 4) (hm : m + 4 * Wk ≤ 48) (hW : Wk ≤ 12) (ha : ∀ q, q < Wk → chkV hx (7 + j) (m + 4 * q) (nI q) = 0) : ∀ i, i ≤ Wk → INV (rdS hx (7 + j) m Wn i) (syS ‹HS› j m i)
  | 0, _ => v
  | i + 1, hi => by
    have z := rs_jn v H hj hm hW ha i (by omega)
    have Hi := rdS_XW (c := 7 + j) (m := m) H (nw4 j hj).1 hW ha i (by omega)
    have rr := ref_0 (ha i (by omega))
    have hw : Wn + i < 24 := by
      have q := rr.2.2
      rw [H.2.2.1.1, nI_add] at q
      have := H.2.2.1.2
      exact (nI_ltI (b := 24) (by omega) (by decide)).mp q
    obtain ⟨-, -, s3, -, -⟩ := z.2.2.1 j hj
    have ez : ∀ t, t < 4 → (nI (m + 4 * i) + nI t).toNatClampNeg = m + 4 * i + t := fun t ht => by rw [nI_add, nI_clamp (by omega)]
    have e0 : (nI (m + 4 * i)).toNatClampNeg = m + 4 * i := nI_clamp (by omega)
    have e1 : (nI (m + 4 * i) + 1).toNatClampNeg = m + 4 * i + 1 := ez 1 (by decide)
    have e2 : (nI (m + 4 * i) + 2).toNatClampNeg = m + 4 * i + 2 := ez 2 (by decide)
    have e3 : (nI (m + 4 * i) + 3).toNatClampNeg = m + 4 * i + 3 := ez 3 (by decide)
    show INV (rdE (rdS hx (7 + j) m Wn i) (7 + j) (m + 4 * i) (Wn + i)) (sayM _ _ _ _ _)
    unfold rdE
    rw [e0, e1, e2, e3, show 48 * j + m + 4 * i = 48 * j + (m + 4 * i) by omega, show 48 * j + (m + 4 * i) + 1 = 48 * j + (m + 4 * i + 1) by omega, show 48 * j + (m + 4 * i) + 2 = 48 * j + (m + 4 * i + 2) by omega, show 48 * j + (m + 4 * i) + 3 = 48 * j + (m + 4 * i + 3) by omega, s3 _ (by omega), s3 _ (by omega), s3 _ (by omega), s3 _ (by omega)]
    refine z.say Hi hw ?_ ?_
    · rw [rdS_o (nw4 j hj).1]
      have := rr.1
      rw [e0] at this
      exact inN H.1.1 H.1.2 (by decide) this
    · rw [rdS_o (nw4 j hj).1]
      have := rr.2.1
      rw [e1] at this
      exact inN H.1.1 H.1.2 (by decide) this
theorem INV.lost {hx hm : HS} {c c' : Int32} (v : INV hx hm) (e : c' = c) : INV (setI hx 0 12 c) (setI hm 0 43 c') := by
  obtain ⟨⟨N, T, Wn, H⟩, r, s, l, b⟩ := v
  exact ⟨⟨N, T, Wn, H.pt rfl⟩, r.sc (c := 0) (by decide) e, s.pt rfl rfl, l, b⟩
/-- read -/
theorem jn_read {hx hm hm' : HS} (v : INV hx hm) (a b f n : Int32) {N T Wn : Nat} (H : XW hx N T Wn) (p : RdP hm a b f n hm') : INV (readF hx a b f n Wn).2 hm' := by
  unfold readF
  unfold RdP at p
  by_cases q : (0 ≤ a ∧ a ≤ 3) ∧ (0 ≤ b ∧ b ≤ 2) ∧ (0 ≤ n ∧ n ≤ 12)
  · rw [if_pos q]
    rw [if_pos (show ((0 ≤ a ∧ a ≤ 3) ∧ (0 ≤ b ∧ b ≤ 2)) ∧ (0 ≤ n ∧ n ≤ 12) from ⟨⟨q.1, q.2.1⟩, q.2.2⟩)] at p
    obtain ⟨j, hj, rfl⟩ := sh_in q.1
    obtain ⟨nn, hnn, rfl⟩ := vp_in_of (inB (M := 12) (by decide) q.2.2) (by decide)
    rw [nI_clamp (show j < 2 ^ 31 by omega), nI_clamp (show nn < 2 ^ 31 by omega)] at p
    rw [nI_clamp (show j < 2 ^ 31 by omega)]
    obtain ⟨Wk, w1, w2, w3, w4⟩ := ww_wy (b := b) (f := f) v.2.2.1 hj (show nn ≤ 12 by omega)
    rw [w2, nI_clamp (show Wk < 2 ^ 31 by omega)]
    have win : ∀ x, x < Wk → f = nI f.toNatClampNeg ∧ f.toNatClampNeg + 4 * x + 3 < 48 := by
      intro x hx2
      have y0 := wy_in v.2.2.1.mz hj (by omega) (Or.inl rfl) (w3 0 (by omega))
      refine wy_in v.2.2.1.mz hj (by omega) (Or.inr ?_) (w3 x hx2)
      rw [y0.1]
      exact nI_pos (by omega)
    rcases p with ⟨i, p1, p2, p3, p4, p5⟩ | ⟨i, p1, p2, p3⟩
    · rw [p5]
      have hi : i < Wk := by
        rcases Nat.lt_trichotomy i Wk with y | y | y
        · exact y
        · subst y
          exact absurd ((w4 p1).symm.trans p3) (cdV_ne _ _ _)
        · exact absurd ((w4 (by omega)).symm.trans (p2 Wk y).1) (cdV_ne _ _ _)
      rw [rdGo_no (i := i) (fun y => p4 ((chk_eq v hj (win i hi).2).mp y)) Wk (by omega) (Nat.le_refl _) (by omega) hi (fun x hx2 => (chk_eq v hj (win x (by omega)).2).mpr (p2 x hx2).2)]
      exact v
    · have hi : i = Wk := by
        rcases Nat.lt_trichotomy i Wk with y | y | y
        · rcases p3 with ⟨z, -⟩ | ⟨z, z2, -⟩
          · omega
          · exact absurd (w3 i y) z2
        · exact y
        · exact absurd ((w4 (by omega)).symm.trans (p2 Wk y).1) (cdV_ne _ _ _)
      subst hi
      have ha : ∀ x, x < i → chkV hx (7 + j) (f.toNatClampNeg + 4 * x) (nI x) = 0 := fun x hx2 => (chk_eq v hj (win x hx2).2).mpr (p2 x hx2).2
      rw [rdGo_ok ha i (Nat.le_refl _)]
      have z : INV (rdS hx (7 + j) f.toNatClampNeg Wn i) (syS hm j f.toNatClampNeg i) := by
        rcases Nat.eq_zero_or_pos i with y | y
        · subst y
          exact v
        · have := (win (i - 1) (by omega)).2
          exact rs_jn v H hj (by omega) (by omega) ha i (Nat.le_refl _)
      have ef : forV (rdS hx (7 + j) f.toNatClampNeg Wn i) (7 + j) b (nI nn) (nI i) = if i = nn then 0 else cdV hx (7 + j) b := by
        unfold forV cdV
        rw [rdS_o (nw4 j hj).2]
        by_cases y : i = nn
        · rw [if_pos y, if_pos (by rw [y])]
        · rw [if_neg y, if_neg (fun u => y ((nI_eq (by omega) (by omega)).mp u))]
      rcases p3 with ⟨y1, y2⟩ | ⟨y1, y2, y3⟩
      · rw [y2]
        refine z.lost ?_
        rw [ef, if_pos y1]
      · rw [y3]
        refine z.lost ?_
        rw [ef, if_neg (by omega), w4 y1]
  · rw [if_neg q]
    rw [if_neg (show ¬ (((0 ≤ a ∧ a ≤ 3) ∧ (0 ≤ b ∧ b ≤ 2)) ∧ (0 ≤ n ∧ n ≤ 12)) from fun z => q ⟨z.1.1, z.1.2, z.2⟩)] at p
    rw [p]
    exact v
/-- rules -/
theorem jn_rules {hx hm hx' hm' : HS} (v : INV hx hm) {R : Int32 × Int32 × (Nat → Int32)} (p : rulX hx hx' R) (p' : rulM hm hm' R) : INV hx' hm' := by
  obtain ⟨⟨N, T, Wn, H⟩, r, s, l, b⟩ := v
  obtain ⟨p1, p2, p3, p4⟩ := p
  obtain ⟨q1, q2, q3, q4, q5⟩ := p'
  have e11 : hm'.1 11 = hx'.1 11 := by rw [q5, p4, r.r (11, 11) (by decide)]
  refine ⟨⟨N, T, Wn, H.e (fun c hc => p1 c ?_ ?_ ?_)⟩, ⟨fun p hp => ?_, fun p hp => ?_⟩, s.e (fun c hc => p1 c ?_ ?_ ?_) (q1 25 (by decide) (by decide) (by decide) (by decide)) (q1 26 (by decide) (by decide) (by decide) (by decide)) (q1 27 (by decide) (by decide) (by decide) (by decide)), ⟨0, by decide, p2⟩, by rw [p1 33 (by decide) (by decide) (by decide)]; exact b⟩
  · rintro rfl
    exact absurd hc (by decide)
  · rintro rfl
    exact absurd hc (by decide)
  · rintro rfl
    exact absurd hc (by decide)
  · by_cases y : p = (11, 11)
    · subst y
      exact e11
    · have u : ∀ p ∈ rp, p ≠ (11, 11) → p.1 ≠ 4 ∧ p.1 ≠ 11 ∧ p.1 ≠ 12 ∧ p.2 ≠ 0 ∧ p.2 ≠ 11 ∧ p.2 ≠ 12 ∧ p.2 ≠ 13 := by decide
      obtain ⟨u1, u2, u3, u4, u5, u6, u7⟩ := u p hp y
      rw [p1 _ u1 u2 u3, q1 _ u4 u5 u6 u7]
      exact r.1 p hp
  · by_cases y : p = ((4, 1), 17)
    · subst y
      exact q3.trans p2.symm
    · by_cases y2 : p = ((4, 2), 22)
      · subst y2
        exact q4.trans p3.symm
      · have u : ∀ p ∈ sp, p ≠ ((4, 1), 17) → p ≠ ((4, 2), 22) → (p.1.1 ≠ 4 ∧ p.1.1 ≠ 11 ∧ p.1.1 ≠ 12) ∧ (p.2 < 17 ∨ 23 < p.2) := by decide
        obtain ⟨⟨u1, u2, u3⟩, u4⟩ := u p hp y y2
        rw [p1 _ u1 u2 u3, q2 _ u4]
        exact r.2 p hp
  · rintro rfl
    cases hc
  · rintro rfl
    cases hc
  · rintro rfl
    cases hc

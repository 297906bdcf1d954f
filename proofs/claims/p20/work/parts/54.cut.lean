/-! sums -/
def sm (f : Nat → Int) : Nat → Int
  | 0 => 0
  | n + 1 => sm f n + f n
theorem sm_c {f g : Nat → Int} : ∀ n, (∀ j, j < n → f j = g j) → sm f n = sm g n
  | 0, _ => rfl
  | n + 1, h => by
    unfold sm
    rw [sm_c n (fun j hj => h j (by omega)), h n (by omega)]
theorem sm_add (f g : Nat → Int) : ∀ n, sm (fun j => f j + g j) n = sm f n + sm g n
  | 0 => rfl
  | n + 1 => by
    unfold sm
    rw [sm_add f g n]
    omega
theorem sm_neg (f : Nat → Int) : ∀ n, sm (fun j => - f j) n = - sm f n
  | 0 => rfl
  | n + 1 => by
    unfold sm
    rw [sm_neg f n]
    omega
theorem sm_0 : ∀ n, sm (fun _ => 0) n = 0
  | 0 => rfl
  | n + 1 => by
    unfold sm
    rw [sm_0 n]
    rfl
theorem sm_nn {f : Nat → Int} : ∀ n, (∀ j, j < n → 0 ≤ f j) → 0 ≤ sm f n
  | 0, _ => Int.le_refl _
  | n + 1, h => by
    unfold sm
    have h1 := sm_nn n (fun j hj => h j (by omega))
    have h2 := h n (by omega)
    omega
theorem sm_le {f g : Nat → Int} : ∀ n, (∀ j, j < n → f j ≤ g j) → sm f n ≤ sm g n
  | 0, _ => Int.le_refl _
  | n + 1, h => by
    unfold sm
    have h1 := sm_le n (fun j hj => h j (by omega))
    have h2 := h n (by omega)
    omega
theorem sm_ge1 {f : Nat → Int} {i : Nat} : ∀ n, (∀ j, j < n → 0 ≤ f j) → i < n → f i ≤ sm f n
  | 0, _, h => absurd h (Nat.not_lt_zero _)
  | n + 1, h, hi => by
    unfold sm
    have h2 := h n (by omega)
    by_cases q : i = n
    · subst q
      have h1 := sm_nn i (fun j hj => h j (by omega))
      omega
    · have h1 := sm_ge1 (i := i) n (fun j hj => h j (by omega)) (by omega)
      omega
theorem sm_z {f : Nat → Int} {n i : Nat} (h : ∀ j, j < n → 0 ≤ f j) (h0 : sm f n = 0) (hi : i < n) : f i = 0 := by
  have h1 := sm_ge1 n h hi
  have h2 := h i hi
  omega
theorem sm_one {f : Nat → Int} {i : Nat} : ∀ n, i < n → (∀ j, j < n → j ≠ i → f j = 0) → sm f n = f i
  | 0, h, _ => absurd h (Nat.not_lt_zero _)
  | n + 1, hi, h => by
    unfold sm
    by_cases q : i = n
    · subst q
      rw [sm_c (g := fun _ => 0) i (fun j hj => h j (by omega) (by omega)), sm_0]
      omega
    · rw [sm_one n (by omega) (fun j hj => h j (by omega)), h n (by omega) (fun z => q z.symm)]
      omega
theorem sm_pt {f g : Nat → Int} {i : Nat} {d : Int} (hi : g i = f i + d) (ho : ∀ j, j ≠ i → g j = f j) : ∀ n, i < n → sm g n = sm f n + d
  | 0, h => absurd h (Nat.not_lt_zero _)
  | n + 1, h => by
    unfold sm
    by_cases q : i = n
    · subst q
      rw [sm_c i (fun j hj => ho j (by omega)), hi]
      omega
    · rw [sm_pt hi ho n (by omega), ho n (fun z => q z.symm)]
      omega
theorem sm_sw (f : Nat → Nat → Int) (n : Nat) : ∀ m, sm (fun a => sm (fun b => f a b) n) m = sm (fun b => sm (fun a => f a b) m) n
  | 0 => by
    show 0 = sm (fun b => 0) n
    rw [sm_0]
  | m + 1 => by
    show sm (fun a => sm (fun b => f a b) n) m + sm (fun b => f m b) n = sm (fun b => sm (fun a => f a b) m + f m b) n
    rw [sm_sw f n m, sm_add]
theorem sm_sk {f : Nat → Nat → Int} {n : Nat} (h : ∀ a b, a < n → b < n → f a b = - f b a) : sm (fun a => sm (fun b => f a b) n) n = 0 := by
  have e : sm (fun a => sm (fun b => f a b) n) n = - sm (fun a => sm (fun b => f a b) n) n := by
    have e1 : sm (fun a => sm (fun b => f a b) n) n = sm (fun a => - sm (fun b => f b a) n) n := by
      refine sm_c n (fun a ha => ?_)
      rw [← sm_neg]
      exact sm_c n (fun b hb => h a b ha hb)
    rw [sm_neg, sm_sw (fun a b => f b a) n n] at e1
    exact e1
  omega
/-! flows: c what is laid, r what is left, s the source, K where it may end -/
def ex (c r : Nat → Nat → Int) (x : Nat) : Int := sm (fun b => c x b - r x b) 14
def FI (c r : Nat → Nat → Int) (s : Nat) (K : Nat → Prop) (v : Int) : Prop :=
  (∀ a b, a < 14 → b < 14 → 0 ≤ r a b) ∧ (∀ a b, a < 14 → b < 14 → r a b + r b a = c a b + c b a) ∧ (∀ x, x < 14 → x ≠ s → ¬ K x → ex c r x = 0) ∧ ex c r s = v
def xS (S : Nat → Bool) (f : Nat → Nat → Int) (a b : Nat) : Int := if S a = true ∧ S b = false then f a b else 0
def cap (c : Nat → Nat → Int) (S : Nat → Bool) : Int := sm (fun a => sm (fun b => xS S c a b) 14) 14
theorem FI.cut {c r : Nat → Nat → Int} {s : Nat} {K : Nat → Prop} {v : Int} {S : Nat → Bool} (h : FI c r s K v) (hs : s < 14) (hS : S s = true) (hK : ∀ x, x < 14 → K x → S x = false) : v + cap r S = cap c S := by
  obtain ⟨h1, h2, h3, h4⟩ := h
  have e1 : sm (fun a => if S a = true then ex c r a else 0) 14 = v := by
    rw [sm_one (i := s) 14 hs, if_pos hS, h4]
    intro j hj hn
    split
    · rename_i q
      refine h3 j hj hn (fun z => ?_)
      rw [hK j hj z] at q
      cases q
    · rfl
  have e2 : ∀ a, (if S a = true then ex c r a else 0) = sm (fun b => if S a = true ∧ S b = true then c a b - r a b else 0) 14 + sm (fun b => xS S c a b + - xS S r a b) 14 := by
    intro a
    rw [← sm_add]
    by_cases q : S a = true
    · rw [if_pos q]
      refine sm_c 14 (fun b hb => ?_)
      unfold xS
      cases qb : S b
      · rw [if_neg (fun z => by cases z.2), if_pos ⟨q, rfl⟩, if_pos ⟨q, rfl⟩]
        omega
      · rw [if_pos ⟨q, rfl⟩, if_neg (fun z => by cases z.2), if_neg (fun z => by cases z.2)]
        omega
    · rw [if_neg q]
      rw [sm_c (g := fun _ => 0) 14 (fun b hb => ?_), sm_0]
      unfold xS
      rw [if_neg (fun z => q z.1), if_neg (fun z => q z.1), if_neg (fun z => q z.1)]
      rfl
  have e3 : sm (fun a => sm (fun b => if S a = true ∧ S b = true then c a b - r a b else 0) 14) 14 = 0 := by
    refine sm_sk (f := fun a b => if S a = true ∧ S b = true then c a b - r a b else 0) (fun a b ha hb => ?_)
    show (if S a = true ∧ S b = true then c a b - r a b else 0) = - (if S b = true ∧ S a = true then c b a - r b a else 0)
    by_cases q : S a = true ∧ S b = true
    · rw [if_pos q, if_pos q.symm]
      have := h2 a b ha hb
      omega
    · rw [if_neg q, if_neg (fun z => q z.symm)]
      rfl
  rw [sm_c 14 (fun a _ => e2 a), sm_add, e3] at e1
  have e4 : sm (fun a => sm (fun b => xS S c a b + - xS S r a b) 14) 14 = cap c S - cap r S := by
    rw [sm_c (g := fun a => sm (fun b => xS S c a b) 14 + - sm (fun b => xS S r a b) 14) 14 (fun a _ => by rw [sm_add, sm_neg]), sm_add, sm_neg]
    rfl
  rw [e4] at e1
  omega
theorem xS_nn {S : Nat → Bool} {r : Nat → Nat → Int} (h : ∀ a b, a < 14 → b < 14 → 0 ≤ r a b) {a b : Nat} (ha : a < 14) (hb : b < 14) : 0 ≤ xS S r a b := by
  unfold xS
  split
  · exact h a b ha hb
  · exact Int.le_refl _
theorem cap_nn {S : Nat → Bool} {r : Nat → Nat → Int} (h : ∀ a b, a < 14 → b < 14 → 0 ≤ r a b) : 0 ≤ cap r S := sm_nn 14 (fun _ ha => sm_nn 14 (fun _ hb => xS_nn h ha hb))
theorem FI.le {c r : Nat → Nat → Int} {s : Nat} {K : Nat → Prop} {v : Int} {S : Nat → Bool} (h : FI c r s K v) (hs : s < 14) (hS : S s = true) (hK : ∀ x, x < 14 → K x → S x = false) : v ≤ cap c S := by
  have h1 := h.cut hs hS hK
  have h2 := cap_nn (S := S) h.1
  omega
theorem FI.eq {c r : Nat → Nat → Int} {s : Nat} {K : Nat → Prop} {v : Int} {S : Nat → Bool} (h : FI c r s K v) (hs : s < 14) (hS : S s = true) (hK : ∀ x, x < 14 → K x → S x = false) (hc : ∀ a b, a < 14 → b < 14 → S a = true → S b = false → r a b = 0) : v = cap c S := by
  have h1 := h.cut hs hS hK
  have h2 : cap r S = 0 := by
    unfold cap
    rw [sm_c (g := fun _ => 0) 14 (fun a ha => ?_), sm_0]
    rw [sm_c (g := fun _ => 0) 14 (fun b hb => ?_), sm_0]
    unfold xS
    split
    · rename_i q
      exact hc a b ha hb q.1 q.2
    · rfl
  omega
theorem FI.ti {c r : Nat → Nat → Int} {s : Nat} {K : Nat → Prop} {v : Int} {S : Nat → Bool} (h : FI c r s K v) (hs : s < 14) (hS : S s = true) (hK : ∀ x, x < 14 → K x → S x = false) (he : v = cap c S) {a b : Nat} (ha : a < 14) (hb : b < 14) (qa : S a = true) (qb : S b = false) : r a b = 0 := by
  have h1 := h.cut hs hS hK
  have h2 : cap r S = 0 := by omega
  have h3 := sm_z (f := fun a => sm (fun b => xS S r a b) 14) (fun j hj => sm_nn 14 (fun _ hb => xS_nn h.1 hj hb)) h2 ha
  have h4 := sm_z (f := fun b => xS S r a b) (fun j hj => xS_nn h.1 ha hj) h3 hb
  have h5 : xS S r a b = r a b := if_pos ⟨qa, qb⟩
  rw [← h5]
  exact h4
/-- what is reached from s by what is left -/
def RC (r : Nat → Nat → Int) (s : Nat) (R : Nat → Bool) (rk : Nat → Nat) : Prop := R s = true ∧ ∀ x, x < 14 → R x = true → x = s ∨ ∃ a, a < 14 ∧ R a = true ∧ rk a < rk x ∧ 0 < r a x
theorem RC.sub {r : Nat → Nat → Int} {s : Nat} {R S : Nat → Bool} {rk : Nat → Nat} (h : RC r s R rk) (hS : S s = true) (ht : ∀ a b, a < 14 → b < 14 → S a = true → S b = false → r a b = 0) : ∀ n x, rk x < n → x < 14 → R x = true → S x = true
  | 0, _, h, _, _ => absurd h (Nat.not_lt_zero _)
  | n + 1, x, hn, hx, hR => by
    rcases h.2 x hx hR with rfl | ⟨a, ha, ra, ka, pa⟩
    · exact hS
    · have sa := h.sub hS ht n a (by omega) ha ra
      cases q : S x
      · have := ht a x ha hx sa q
        omega
      · rfl
/-! cuts between names: what each is given (g), the rooms (W), what leads on from each (k) -/
def cv (g : Nat → Int) (W : Nat → Nat → Int) (k : Nat → Int) (X : Nat → Bool) : Int := sm (fun a => (if X a = true then k a else g a) + sm (fun b => xS X W a b) 12) 12
def MC (g : Nat → Int) (W : Nat → Nat → Int) (k : Nat → Int) (v : Int) (X : Nat → Bool) : Prop := v = cv g W k X ∧ (∀ Y, v ≤ cv g W k Y) ∧ ∀ Y, cv g W k Y = v → ∀ a, a < 12 → X a = true → Y a = true
theorem cv_c {g g' : Nat → Int} {W W' : Nat → Nat → Int} {k k' : Nat → Int} {X X' : Nat → Bool} (h1 : ∀ a, a < 12 → g a = g' a) (h2 : ∀ a b, a < 12 → b < 12 → W a b = W' a b) (h3 : ∀ a, a < 12 → X a = true → k a = k' a) (h4 : ∀ a, a < 12 → X a = X' a) : cv g W k X = cv g' W' k' X' := by
  refine sm_c 12 (fun a ha => ?_)
  have e1 : (if X a = true then k a else g a) = (if X' a = true then k' a else g' a) := by
    rw [← h4 a ha]
    split
    · rename_i q
      exact h3 a ha q
    · exact h1 a ha
  have e2 : sm (fun b => xS X W a b) 12 = sm (fun b => xS X' W' a b) 12 := by
    refine sm_c 12 (fun b hb => ?_)
    unfold xS
    rw [h4 a ha, h4 b hb, h2 a b ha hb]
  show (if X a = true then k a else g a) + sm (fun b => xS X W a b) 12 = (if X' a = true then k' a else g' a) + sm (fun b => xS X' W' a b) 12
  rw [e1, e2]
theorem MC.un {g g' : Nat → Int} {W W' : Nat → Nat → Int} {k k' : Nat → Int} {v v' : Int} {X X' : Nat → Bool} (m : MC g W k v X) (m' : MC g' W' k' v' X') (h1 : ∀ a, a < 12 → g a = g' a) (h2 : ∀ a b, a < 12 → b < 12 → W a b = W' a b) (h3 : ∀ a, a < 12 → k a = k' a) : v = v' ∧ ∀ a, a < 12 → X a = X' a := by
  have e : ∀ Y, cv g W k Y = cv g' W' k' Y := fun Y => cv_c h1 h2 (fun a ha _ => h3 a ha) (fun _ _ => rfl)
  have a1 := m.2.1 X'
  have a2 := m'.2.1 X
  rw [e, ← m'.1] at a1
  rw [← e, ← m.1] at a2
  have ev : v = v' := Int.le_antisymm a1 a2
  refine ⟨ev, fun a ha => ?_⟩
  have b1 := m.2.2 X' (by rw [e, ← m'.1, ev]) a ha
  have b2 := m'.2.2 X (by rw [← e, ← m.1, ev]) a ha
  cases q1 : X a <;> cases q2 : X' a
  · rfl
  · rw [q1] at b2
    exact absurd (b2 q2) (by decide)
  · rw [q2] at b1
    exact absurd (b1 q1) (by decide)
  · rfl
theorem sm14 (f : Nat → Int) : sm f 14 = sm f 12 + f 12 + f 13 := rfl
theorem sm_sz {s z : Nat} (h : (s = 12 ∧ z = 13) ∨ (s = 13 ∧ z = 12)) (f : Nat → Int) : sm f 14 = sm f 12 + f s + f z := by
  rw [sm14]
  rcases h with ⟨rfl, rfl⟩ | ⟨rfl, rfl⟩ <;> omega
theorem xS_1 {S : Nat → Bool} {f : Nat → Nat → Int} {a b : Nat} (h : S a = false) : xS S f a b = 0 := if_neg (fun z => by rw [h] at z; cases z.1)
theorem xS_2 {S : Nat → Bool} {f : Nat → Nat → Int} {a b : Nat} (h : S b = true) : xS S f a b = 0 := if_neg (fun z => by rw [h] at z; cases z.2)
theorem cap_cv {s z : Nat} {c W : Nat → Nat → Int} {g k : Nat → Int} {S : Nat → Bool} (hsz : (s = 12 ∧ z = 13) ∨ (s = 13 ∧ z = 12)) (hs : S s = true) (hz : S z = false) (hg : ∀ a, a < 12 → c s a = g a) (h0 : c s z = 0) (hk : ∀ a, a < 12 → S a = true → c a z = k a) (hW : ∀ a b, a < 12 → b < 12 → c a b = W a b) : cap c S = cv g W k S := by
  have i1 : sm (fun b => xS S c z b) 14 = 0 := by
    rw [sm_c (g := fun _ => 0) 14 (fun b _ => xS_1 hz), sm_0]
  have i2 : sm (fun b => xS S c s b) 14 = sm (fun b => if S b = true then 0 else g b) 12 := by
    rw [sm_sz hsz, show xS S c s s = 0 from xS_2 hs, show xS S c s z = 0 from (if_pos ⟨hs, hz⟩).trans h0]
    rw [sm_c (g := fun b => if S b = true then 0 else g b) 12 (fun b hb => ?_)]
    · omega
    · cases q : S b
      · rw [if_neg (by decide)]
        exact (if_pos ⟨hs, q⟩).trans (hg b hb)
      · rw [if_pos rfl]
        exact xS_2 q
  have i3 : ∀ a, a < 12 → sm (fun b => xS S c a b) 14 = sm (fun b => xS S W a b) 12 + (if S a = true then k a else 0) := by
    intro a ha
    rw [sm_sz hsz, show xS S c a s = 0 from xS_2 hs]
    have e : xS S c a z = (if S a = true then k a else 0) := by
      cases q : S a
      · rw [if_neg (by decide)]
        exact xS_1 q
      · rw [if_pos rfl]
        exact (if_pos ⟨q, hz⟩).trans (hk a ha q)
    rw [e, sm_c (g := fun b => xS S W a b) 12 (fun b hb => ?_)]
    · omega
    · unfold xS
      rw [hW a b ha hb]
  unfold cap
  rw [sm_sz hsz, i1, i2, sm_c 12 i3, Int.add_zero, ← sm_add]
  refine sm_c 12 (fun a _ => ?_)
  show sm (fun b => xS S W a b) 12 + (if S a = true then k a else 0) + (if S a = true then 0 else g a) = (if S a = true then k a else g a) + sm (fun b => xS S W a b) 12
  split <;> omega
def sX (s z : Nat) (X : Nat → Bool) (x : Nat) : Bool := if x = s then true else if x = z then false else X x
theorem sX_s {s z : Nat} {X : Nat → Bool} : sX s z X s = true := if_pos rfl
theorem sX_z {s z : Nat} {X : Nat → Bool} (h : z ≠ s) : sX s z X z = false := (if_neg h).trans (if_pos rfl)
theorem sX_o {s z x : Nat} {X : Nat → Bool} (h1 : x ≠ s) (h2 : x ≠ z) : sX s z X x = X x := (if_neg h1).trans (if_neg h2)
theorem mc_of {s z : Nat} {c r W : Nat → Nat → Int} {g k : Nat → Int} {v : Int} {R : Nat → Bool} {rk : Nat → Nat} (hsz : (s = 12 ∧ z = 13) ∨ (s = 13 ∧ z = 12)) (h : FI c r s (fun x => x = z) v) (hR : RC r s R rk) (hz : R z = false) (hc : ∀ a b, a < 14 → b < 14 → R a = true → R b = false → r a b = 0) (hg : ∀ a, a < 12 → c s a = g a) (h0 : c s z = 0) (hk : ∀ a, a < 12 → c a z = k a) (hW : ∀ a b, a < 12 → b < 12 → c a b = W a b) : MC g W k v R := by
  have hs : s < 14 := by omega
  have hzs : z ≠ s := by omega
  have A : ∀ X, cap c (sX s z X) = cv g W k X := by
    intro X
    rw [cap_cv hsz sX_s (sX_z hzs) hg h0 (fun a ha _ => hk a ha) hW]
    exact cv_c (fun _ _ => rfl) (fun _ _ _ _ => rfl) (fun _ _ _ => rfl) (fun a ha => sX_o (by omega) (by omega))
  have B : ∀ X, ∀ x, x < 14 → x = z → sX s z X x = false := by
    intro X x _ q
    subst q
    exact sX_z hzs
  refine ⟨?_, fun Y => ?_, fun Y hY a ha hX => ?_⟩
  · rw [h.eq hs hR.1 (fun x _ q => by subst q; exact hz) hc]
    exact cap_cv hsz hR.1 hz hg h0 (fun a ha _ => hk a ha) hW
  · rw [← A Y]
    exact h.le hs sX_s (B Y)
  · have t := hR.sub (S := sX s z Y) sX_s (fun a b ha hb qa qb => h.ti hs sX_s (B Y) ((A Y).trans hY).symm ha hb qa qb) (rk a + 1) a (by omega) (by omega) hX
    rw [sX_o (by omega) (by omega)] at t
    exact t
theorem mc_tr {c r W : Nat → Nat → Int} {g : Nat → Int} {v F : Int} {R K : Nat → Bool} {rk : Nat → Nat} (h : FI c r 13 (fun x => K x = true) v) (hR : RC r 13 R rk) (hK : ∀ a, a < 14 → K a = true → R a = false) (hK2 : ∀ a, 12 ≤ a → a < 14 → K a = false) (hc : ∀ a b, a < 14 → b < 14 → R a = true → R b = false → r a b = 0) (hg : ∀ a, a < 12 → c 13 a = g a) (hi : ∀ a, a < 14 → c a 12 = 0 ∧ c 12 a = 0) (hW : ∀ a b, a < 12 → b < 12 → c a b = W a b) (gn : ∀ a, a < 12 → 0 ≤ g a) (Wn : ∀ a b, a < 12 → b < 12 → 0 ≤ W a b) (hF : sm g 12 < F) : MC g W (fun a => if K a = true then F else 0) v R := by
  have hsz : ((13 : Nat) = 12 ∧ (12 : Nat) = 13) ∨ ((13 : Nat) = 13 ∧ (12 : Nat) = 12) := Or.inr ⟨rfl, rfl⟩
  have F0 : 0 ≤ F := Int.le_of_lt (Int.lt_of_le_of_lt (sm_nn 12 gn) hF)
  have nW : ∀ X a, a < 12 → 0 ≤ sm (fun b => xS X W a b) 12 := by
    intro X a ha
    refine sm_nn 12 (fun b hb => ?_)
    unfold xS
    split
    · exact Wn a b ha hb
    · exact Int.le_refl _
  have A : ∀ X : Nat → Bool, (∀ a, a < 12 → K a = true → X a = false) → cap c (sX 13 12 X) = cv g W (fun a => if K a = true then F else 0) X ∧ ∀ x, x < 14 → K x = true → sX 13 12 X x = false := by
    intro X hX
    constructor
    · rw [cap_cv (k := fun a => if K a = true then F else 0) hsz sX_s (sX_z (by decide)) hg (hi 13 (by decide)).1 (fun a ha q => ?_) hW]
      · exact cv_c (fun _ _ => rfl) (fun _ _ _ _ => rfl) (fun _ _ _ => rfl) (fun a ha => sX_o (by omega) (by omega))
      · rw [sX_o (by omega) (by omega)] at q
        rw [(hi a (by omega)).1]
        show 0 = if K a = true then F else 0
        rw [if_neg (fun z => by rw [hX a ha z] at q; cases q)]
    · intro x hx q
      rcases Nat.lt_or_ge x 12 with z | z
      · rw [sX_o (by omega) (by omega)]
        exact hX x z q
      · rw [hK2 x z hx] at q
        cases q
  have C : v < F := by
    have a1 := A (fun _ => false) (fun _ _ _ => rfl)
    have a2 := h.le (by decide) sX_s a1.2
    have a3 : cv g W (fun a => if K a = true then F else 0) (fun _ => false) = sm g 12 := by
      refine sm_c 12 (fun a _ => ?_)
      show (if false = true then _ else g a) + sm (fun b => xS (fun _ => false) W a b) 12 = g a
      rw [if_neg (by decide), sm_c (g := fun _ => 0) 12 (fun b _ => xS_1 rfl), sm_0]
      omega
    rw [a1.1, a3] at a2
    omega
  have B : ∀ X : Nat → Bool, ∀ a, a < 12 → K a = true → X a = true → F ≤ cv g W (fun a => if K a = true then F else 0) X := by
    intro X a ha q1 q2
    have nn : ∀ j, j < 12 → 0 ≤ (if X j = true then (if K j = true then F else 0) else g j) + sm (fun b => xS X W j b) 12 := by
      intro j hj
      have y1 := nW X j hj
      have y2 := gn j hj
      split
      · split <;> omega
      · omega
    have y := sm_ge1 (f := fun a => (if X a = true then (if K a = true then F else 0) else g a) + sm (fun b => xS X W a b) 12) 12 nn ha
    have y1 := nW X a ha
    have y2 : (if X a = true then (if K a = true then F else 0) else g a) = F := by rw [if_pos q2, if_pos q1]
    have y3 : F ≤ (if X a = true then (if K a = true then F else 0) else g a) + sm (fun b => xS X W a b) 12 := by rw [y2]; omega
    exact Int.le_trans y3 y
  refine ⟨?_, fun Y => ?_, fun Y hY a ha hX => ?_⟩
  · have a1 := A R (fun a ha q => hK a (by omega) q)
    rw [← a1.1]
    refine h.eq (by decide) sX_s a1.2 (fun a b ha hb qa qb => ?_)
    have b13 : b ≠ 13 := fun z => by rw [z, sX_s] at qb; cases qb
    have a12 : a ≠ 12 := fun z => by rw [z, sX_z (by decide)] at qa; cases qa
    by_cases y : b = 12
    · subst y
      have u1 := h.2.1 a 12 ha (by decide)
      have u2 := h.1 a 12 ha (by decide)
      have u3 := h.1 12 a (by decide) ha
      have u4 := hi a ha
      omega
    · rw [sX_o b13 y] at qb
      refine hc a b ha hb ?_ qb
      by_cases z : a = 13
      · rw [z]
        exact hR.1
      · rw [sX_o z a12] at qa
        exact qa
  · by_cases q : ∃ a, a < 12 ∧ K a = true ∧ Y a = true
    · obtain ⟨a, ha, q1, q2⟩ := q
      have := B Y a ha q1 q2
      omega
    · have a1 := A Y (fun a ha z => by
        cases y : Y a
        · rfl
        · exact absurd ⟨a, ha, z, y⟩ q)
      rw [← a1.1]
      exact h.le (by decide) sX_s a1.2
  · have a1 := A Y (fun a ha z => by
      cases y : Y a
      · rfl
      · have := B Y a ha z y
        omega)
    have t := hR.sub (S := sX 13 12 Y) sX_s (fun a b ha hb qa qb => h.ti (by decide) sX_s a1.2 (a1.1.trans hY).symm ha hb qa qb) (rk a + 1) a (by omega) (by omega) hX
    rw [sX_o (by omega) (by omega)] at t
    exact t
/-! a way is filled, from its end t on; x is where it stands -/
def mv (r : Nat → Nat → Int) (v : Int) (a x : Nat) : Nat → Nat → Int := fun p q => if p = a ∧ q = x then r p q - v else if p = x ∧ q = a then r p q + v else r p q
theorem mv_1 {r : Nat → Nat → Int} {v : Int} {a x : Nat} : mv r v a x a x = r a x - v := if_pos ⟨rfl, rfl⟩
theorem mv_2 {r : Nat → Nat → Int} {v : Int} {a x : Nat} (h : a ≠ x) : mv r v a x x a = r x a + v := (if_neg (fun z => h z.2)).trans (if_pos ⟨rfl, rfl⟩)
theorem mv_o {r : Nat → Nat → Int} {v : Int} {a x p q : Nat} (h1 : ¬ (p = a ∧ q = x)) (h2 : ¬ (p = x ∧ q = a)) : mv r v a x p q = r p q := (if_neg h1).trans (if_neg h2)
theorem ex_mv {c r : Nat → Nat → Int} {v : Int} {a x : Nat} (h : a ≠ x) (ha : a < 14) (hx : x < 14) (y : Nat) : ex c (mv r v a x) y = ex c r y + (if y = a then v else 0) - (if y = x then v else 0) := by
  by_cases q1 : y = a
  · subst q1
    rw [if_pos rfl, if_neg h]
    have e := sm_pt (f := fun b => c y b - r y b) (g := fun b => c y b - mv r v y x y b) (i := x) (d := v) (by show c y x - mv r v y x y x = c y x - r y x + v; rw [mv_1]; omega) (fun j hj => by show c y j - mv r v y x y j = c y j - r y j; rw [mv_o (fun z => hj z.2) (fun z => h z.1)]) 14 hx
    show sm (fun b => c y b - mv r v y x y b) 14 = sm (fun b => c y b - r y b) 14 + v - 0
    rw [e]
    omega
  · by_cases q2 : y = x
    · subst q2
      rw [if_neg q1, if_pos rfl]
      have e := sm_pt (f := fun b => c y b - r y b) (g := fun b => c y b - mv r v a y y b) (i := a) (d := -v) (by show c y a - mv r v a y y a = c y a - r y a + -v; rw [mv_2 h]; omega) (fun j hj => by show c y j - mv r v a y y j = c y j - r y j; rw [mv_o (fun z => q1 z.1) (fun z => hj z.2)]) 14 ha
      show sm (fun b => c y b - mv r v a y y b) 14 = sm (fun b => c y b - r y b) 14 + 0 - v
      rw [e]
      omega
    · rw [if_neg q1, if_neg q2]
      have e : ex c (mv r v a x) y = ex c r y := sm_c 14 (fun b _ => by show c y b - mv r v a x y b = c y b - r y b; rw [mv_o (fun z => q1 z.1) (fun z => q2 z.1)])
      omega
def FP (c r1 r : Nat → Nat → Int) (rk : Nat → Nat) (v : Int) (t x : Nat) : Prop :=
  (∀ a b, a < 14 → b < 14 → 0 ≤ r a b) ∧ (∀ a b, a < 14 → b < 14 → r a b + r b a = c a b + c b a) ∧ (∀ y, y < 14 → ex c r y = ex c r1 y + (if y = x then v else 0) - (if y = t then v else 0)) ∧ ∀ y a, y < 14 → a < 14 → rk y ≤ rk x → rk a < rk y → r a y = r1 a y
theorem FP.st {c r1 : Nat → Nat → Int} {s : Nat} {K : Nat → Prop} {v0 : Int} (h : FI c r1 s K v0) (rk : Nat → Nat) (v : Int) (t : Nat) : FP c r1 r1 rk v t t := ⟨h.1, h.2.1, fun y _ => by omega, fun _ _ _ _ _ _ => rfl⟩
theorem FP.go {c r1 r : Nat → Nat → Int} {rk : Nat → Nat} {v : Int} {t x a : Nat} (h : FP c r1 r rk v t x) (hx : x < 14) (ha : a < 14) (hk : rk a < rk x) (hv : 0 ≤ v) (hle : v ≤ r1 a x) : FP c r1 (mv r v a x) rk v t a := by
  obtain ⟨h1, h2, h3, h4⟩ := h
  have ne : a ≠ x := fun z => by rw [z] at hk; exact Nat.lt_irrefl _ hk
  have e := h4 x a hx ha (Nat.le_refl _) hk
  refine ⟨fun p q hp hq => ?_, fun p q hp hq => ?_, fun y hy => ?_, fun y b hy hb ky kb => ?_⟩
  · have h5 := h1 p q hp hq
    unfold mv
    split
    · rename_i z
      obtain ⟨rfl, rfl⟩ := z
      omega
    · split <;> omega
  · have h5 := h2 p q hp hq
    by_cases z1 : p = a ∧ q = x
    · obtain ⟨rfl, rfl⟩ := z1
      rw [mv_1, mv_2 ne]
      omega
    · by_cases z2 : p = x ∧ q = a
      · obtain ⟨rfl, rfl⟩ := z2
        rw [mv_1, mv_2 ne]
        omega
      · rw [mv_o z1 z2, mv_o (fun z => z2 ⟨z.2, z.1⟩) (fun z => z1 ⟨z.2, z.1⟩)]
        exact h5
  · rw [ex_mv ne ha hx, h3 y hy]
    omega
  · rw [mv_o (fun z => by rw [z.2] at ky; omega) (fun z => by rw [z.1, z.2] at kb; omega)]
    exact h4 y b hy hb (by omega) kb
theorem ex_c {c r r' : Nat → Nat → Int} {y : Nat} (hy : y < 14) (h : ∀ a b, a < 14 → b < 14 → r' a b = r a b) : ex c r' y = ex c r y := sm_c 14 (fun b hb => by show c y b - r' y b = c y b - r y b; rw [h y b hy hb])
theorem FP.c {c r1 r r' : Nat → Nat → Int} {rk : Nat → Nat} {v : Int} {t x : Nat} (h : FP c r1 r rk v t x) (e : ∀ a b, a < 14 → b < 14 → r' a b = r a b) : FP c r1 r' rk v t x := by
  obtain ⟨h1, h2, h3, h4⟩ := h
  refine ⟨fun a b ha hb => ?_, fun a b ha hb => ?_, fun y hy => ?_, fun y a hy ha k1 k2 => ?_⟩
  · rw [e a b ha hb]
    exact h1 a b ha hb
  · rw [e a b ha hb, e b a hb ha]
    exact h2 a b ha hb
  · rw [ex_c hy e]
    exact h3 y hy
  · rw [e a y ha hy]
    exact h4 y a hy ha k1 k2
theorem FI.c {c r r' : Nat → Nat → Int} {s : Nat} {K : Nat → Prop} {v : Int} (h : FI c r s K v) (hs : s < 14) (e : ∀ a b, a < 14 → b < 14 → r' a b = r a b) : FI c r' s K v := by
  obtain ⟨h1, h2, h3, h4⟩ := h
  refine ⟨fun a b ha hb => ?_, fun a b ha hb => ?_, fun y hy q1 q2 => ?_, ?_⟩
  · rw [e a b ha hb]
    exact h1 a b ha hb
  · rw [e a b ha hb, e b a hb ha]
    exact h2 a b ha hb
  · rw [ex_c hy e]
    exact h3 y hy q1 q2
  · rw [ex_c hs e]
    exact h4
theorem FP.end {c r1 r : Nat → Nat → Int} {rk : Nat → Nat} {v v0 : Int} {t s : Nat} {K : Nat → Prop} (h : FP c r1 r rk v t s) (h0 : FI c r1 s K v0) (hs : s < 14) (ht : K t) (hn : t ≠ s) : FI c r s K (v0 + v) := by
  refine ⟨h.1, h.2.1, fun x hx h1 h2 => ?_, ?_⟩
  · rw [h.2.2.1 x hx, h0.2.2.1 x hx h1 h2, if_neg h1, if_neg (fun z => h2 (by rw [z]; exact ht))]
    rfl
  · rw [h.2.2.1 s hs, h0.2.2.2, if_pos rfl, if_neg (fun z => hn z.symm)]
    omega
/-! shortest ways: labels l; what is tight -/
def tcf (r : Nat → Nat → Int) (l : Nat → Nat) (a b : Nat) : Int := if 0 < r a b ∧ l b = l a + 1 then 1 else 0
def tc (r : Nat → Nat → Int) (l : Nat → Nat) : Int := sm (fun a => sm (fun b => tcf r l a b) 14) 14
theorem tcf_01 (r : Nat → Nat → Int) (l : Nat → Nat) (a b : Nat) : 0 ≤ tcf r l a b ∧ tcf r l a b ≤ 1 := by
  unfold tcf
  split <;> omega
theorem sm_k (k : Int) : ∀ n : Nat, sm (fun _ => k) n = (n : Int) * k
  | 0 => by show 0 = ((0 : Nat) : Int) * k; simp
  | n + 1 => by
    unfold sm
    rw [sm_k k n, Int.natCast_add, Int.add_mul]
    simp
theorem tc_le (r : Nat → Nat → Int) (l : Nat → Nat) : tc r l ≤ 196 := by
  have h1 : ∀ a, a < 14 → sm (fun b => tcf r l a b) 14 ≤ 14 := by
    intro a _
    have := sm_le (g := fun _ => 1) 14 (fun b (_ : b < 14) => (tcf_01 r l a b).2)
    rw [sm_k] at this
    exact this
  have := sm_le (g := fun _ => 14) 14 h1
  rw [sm_k] at this
  exact this
theorem tc_nn (r : Nat → Nat → Int) (l : Nat → Nat) : 0 ≤ tc r l := sm_nn 14 (fun a _ => sm_nn 14 (fun b _ => (tcf_01 r l a b).1))
theorem sm_lt {f g : Nat → Int} {i : Nat} {n : Nat} (h : ∀ j, j < n → f j ≤ g j) (hi : i < n) (h1 : f i + 1 ≤ g i) : sm f n + 1 ≤ sm g n := by
  have e := sm_pt (f := f) (g := fun j => if j = i then f j + 1 else f j) (i := i) (d := 1) (if_pos rfl) (fun j hj => if_neg hj) n hi
  rw [← e]
  refine sm_le n (fun j hj => ?_)
  show (if j = i then f j + 1 else f j) ≤ g j
  split
  · rename_i q
    subst q
    exact h1
  · exact h j hj
def TQF (r1 r : Nat → Nat → Int) (l : Nat → Nat) : Prop := ∀ a b, a < 14 → b < 14 → 0 < r a b → 0 < r1 a b ∨ l a = l b + 1
theorem TQF.go {r1 r : Nat → Nat → Int} {l : Nat → Nat} {v : Int} {a x : Nat} (h : TQF r1 r l) (hv : 0 ≤ v) (hl : l x = l a + 1) : TQF r1 (mv r v a x) l := by
  intro p q hp hq hr
  unfold mv at hr
  split at hr
  · rename_i z
    exact h p q hp hq (by omega)
  · split at hr
    · rename_i z
      obtain ⟨rfl, rfl⟩ := z
      exact Or.inr hl
    · exact h p q hp hq hr
theorem TQF.le {r1 r : Nat → Nat → Int} {l : Nat → Nat} (h : TQF r1 r l) {a b : Nat} (ha : a < 14) (hb : b < 14) : tcf r l a b ≤ tcf r1 l a b := by
  by_cases q : 0 < r a b ∧ l b = l a + 1
  · have q1 : 0 < r1 a b := (h a b ha hb q.1).resolve_right (by omega)
    have e : tcf r1 l a b = 1 := if_pos ⟨q1, q.2⟩
    rw [e]
    exact (tcf_01 r l a b).2
  · have e : tcf r l a b = 0 := if_neg q
    rw [e]
    exact (tcf_01 r1 l a b).1
theorem TQF.lt {r1 r : Nat → Nat → Int} {l : Nat → Nat} (h : TQF r1 r l) {a b : Nat} (ha : a < 14) (hb : b < 14) (h1 : 0 < r1 a b) (h2 : l b = l a + 1) (h3 : r a b = 0) : tc r l + 1 ≤ tc r1 l := by
  refine sm_lt (i := a) (fun p hp => sm_le 14 (fun q hq => h.le hp hq)) ha ?_
  refine sm_lt (i := b) (fun q hq => h.le ha hq) hb ?_
  have e1 : tcf r l a b = 0 := if_neg (fun z => by rw [h3] at z; exact absurd z.1 (by decide))
  have e2 : tcf r1 l a b = 1 := if_pos ⟨h1, h2⟩
  show tcf r l a b + 1 ≤ tcf r1 l a b
  rw [e1, e2]
  decide
/-- i ways are behind it: labels that fit what is left, the ends no nearer than D -/
def EK (r : Nat → Nat → Int) (s : Nat) (K : Nat → Prop) (l : Nat → Nat) (D i : Nat) : Prop := l s = 0 ∧ (∀ a b, a < 14 → b < 14 → 0 < r a b → l b ≤ l a + 1) ∧ (∀ x, x < 14 → K x → D ≤ l x) ∧ (i : Int) + tc r l ≤ 197 * (D : Int)
/-- a search's way: f from whom, F who is found, L how far -/
def CH (r : Nat → Nat → Int) (s : Nat) (f : Nat → Nat) (F : Nat → Bool) (L : Nat → Nat) : Prop := L s = 0 ∧ F s = true ∧ ∀ x, x < 14 → F x = true → x = s ∨ (x ≠ s ∧ f x < 14 ∧ F (f x) = true ∧ L x = L (f x) + 1 ∧ 0 < r (f x) x)
theorem CH.le {r : Nat → Nat → Int} {s : Nat} {f : Nat → Nat} {F : Nat → Bool} {L l : Nat → Nat} (h : CH r s f F L) (h0 : l s = 0) (hv : ∀ a b, a < 14 → b < 14 → 0 < r a b → l b ≤ l a + 1) : ∀ n x, L x < n → x < 14 → F x = true → l x ≤ L x
  | 0, _, h, _, _ => absurd h (Nat.not_lt_zero _)
  | n + 1, x, hn, hx, hF => by
    rcases h.2.2 x hx hF with rfl | ⟨_, ha, fa, la, pa⟩
    · omega
    · have h1 := h.le h0 hv n (f x) (by omega) ha fa
      have h2 := hv (f x) x ha hx pa
      omega
/-- the next labels: the old ones as long as the ends are as near, else the search's own -/
theorem EK.next {r : Nat → Nat → Int} {s t : Nat} {K : Nat → Prop} {l L : Nat → Nat} {f : Nat → Nat} {F : Nat → Bool} {D i : Nat} (e : EK r s K l D i) (h : CH r s f F L) (hv : ∀ a b, a < 14 → b < 14 → 0 < r a b → L b ≤ L a + 1) (ht : t < 14) (kt : K t) (ft : F t = true) (hK : ∀ x, x < 14 → K x → L t ≤ L x) : ∃ l', EK r s K l' (L t) i ∧ l' t = L t ∧ ∀ x, x < 14 → F x = true → l' x ≤ L x := by
  obtain ⟨e1, e2, e3, e4⟩ := e
  have h1 := h.le e1 e2 (L t + 1) t (by omega) ht ft
  have h2 := e3 t ht kt
  by_cases q : D = L t
  · subst q
    exact ⟨l, ⟨e1, e2, e3, e4⟩, by omega, fun x hx hF => h.le e1 e2 (L x + 1) x (by omega) hx hF⟩
  · refine ⟨L, ⟨h.1, hv, hK, ?_⟩, rfl, fun x _ _ => Nat.le_refl _⟩
    have h3 := tc_le r L
    have h4 := tc_nn r l
    omega
theorem EK.step {r r' : Nat → Nat → Int} {s : Nat} {K : Nat → Prop} {l : Nat → Nat} {D i a b : Nat} (e : EK r s K l D i) (q : TQF r r' l) (ha : a < 14) (hb : b < 14) (h1 : 0 < r a b) (h2 : l b = l a + 1) (h3 : r' a b = 0) : EK r' s K l D (i + 1) := by
  obtain ⟨e1, e2, e3, e4⟩ := e
  refine ⟨e1, fun p u hp hu hr => ?_, e3, ?_⟩
  · rcases q p u hp hu hr with z | z
    · exact e2 p u hp hu z
    · omega
  · have := q.lt ha hb h1 h2 h3
    omega
theorem EK_0 {r : Nat → Nat → Int} {s : Nat} {K : Nat → Prop} : EK r s K (fun _ => 0) 0 0 := by
  refine ⟨rfl, fun _ _ _ _ _ => Nat.zero_le _, fun _ _ _ => Nat.zero_le _, ?_⟩
  have e : tc r (fun _ => 0) = 0 := by
    unfold tc
    rw [sm_c (g := fun _ => 0) 14 (fun a _ => ?_), sm_0]
    rw [sm_c (g := fun _ => 0) 14 (fun b _ => ?_), sm_0]
    exact if_neg (fun z => absurd z.2 (by show ¬ (0 : Nat) = 0 + 1; decide))
  rw [e]
  decide

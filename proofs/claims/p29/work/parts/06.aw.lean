/-! THE WALKER. The cells of the system are fixed once its constructor has ended, and no reference ever changes: so a state is numbers alone.
SP: what a cell is (0: a row of ints, 1: of booleans, 2: of references, c + 3: an object of class c; its length; its fields: 0 int, 1 long, r + 2 the cell r).
HS: what the cells hold: (cell, place) to an int, (cell, place) to a long. Geo: the tables' numbers, the cells' addresses, the classes of rows. -/
def aw_fv (g : Geo) (h : HS) (i j f : Nat) : Value := match f with
  | 0 => .int (h.1 i j)
  | 1 => .long (h.2 i j)
  | r + 2 => .ref (g.2.1 r)
def aw_fs (g : Geo) (h : HS) (i : Nat) : Nat → List Nat → List Value
  | _, [] => []
  | j, f :: r => aw_fv g h i j f :: aw_fs g h i (j + 1) r
def aw_ce (g : Geo) (h : HS) (i : Nat) (sp : SP) : va_E := match sp.1 with
  | 0 => .inl (g.2.2.1, sp.2.1, .inl (h.1 i))
  | 1 => .inl (g.2.2.2.1, sp.2.1, .inl (h.1 i))
  | 2 => .inl (g.2.2.2.2, sp.2.1, .inr (.inr (.inr (.inr (fun k => (sp.2.2[k]?).map g.2.1)))))
  | c + 3 => .inr (c, aw_fs g h i 0 sp.2.2)
def aw_cz (g : Geo) (h : HS) : Nat → List SP → va_W
  | _, [] => []
  | i, sp :: r => (g.2.1 i, aw_ce g h i sp) :: aw_cz g h (i + 1) r
theorem aw_cz_get (g : Geo) (h : HS) : ∀ (lay : List SP) (b i : Nat), (aw_cz g h b lay)[i]? = (lay[i]?).map (fun sp => (g.2.1 (b + i), aw_ce g h (b + i) sp))
  | [], b, i => by simp [aw_cz]
  | sp :: r, b, 0 => by simp [aw_cz]
  | sp :: r, b, i + 1 => by
    simp only [aw_cz, List.getElem?_cons_succ]
    rw [aw_cz_get g h r (b + 1) i, show b + 1 + i = b + (i + 1) by omega]
theorem aw_cz_at {g : Geo} {h : HS} {lay : List SP} {i : Nat} {sp : SP} (hi : lay[i]? = some sp) : (aw_cz g h 0 lay)[i]? = some (g.2.1 i, aw_ce g h i sp) := by
  rw [aw_cz_get, hi, Nat.zero_add]
  rfl
theorem aw_fs_get (g : Geo) (h : HS) (i : Nat) : ∀ (fs : List Nat) (b j : Nat), (aw_fs g h i b fs)[j]? = (fs[j]?).map (fun f => aw_fv g h i (b + j) f)
  | [], b, j => by simp [aw_fs]
  | f :: r, b, 0 => by simp [aw_fs]
  | f :: r, b, j + 1 => by
    simp only [aw_fs, List.getElem?_cons_succ]
    rw [aw_fs_get g h i r (b + 1) j, show b + 1 + j = b + (j + 1) by omega]
theorem aw_fs_at {g : Geo} {h : HS} {i j f : Nat} {fs : List Nat} (hj : fs[j]? = some f) : (aw_fs g h i 0 fs)[j]? = some (aw_fv g h i j f) := by
  rw [aw_fs_get, hj, Nat.zero_add]
  rfl
theorem aw_fv_congr {g : Geo} {h h' : HS} {i j f : Nat} (h1 : h'.1 i = h.1 i) (h2 : h'.2 i = h.2 i) : aw_fv g h' i j f = aw_fv g h i j f := by
  unfold aw_fv
  split <;> simp [h1, h2]
theorem aw_fs_congr {g : Geo} {h h' : HS} {i : Nat} (h1 : h'.1 i = h.1 i) (h2 : h'.2 i = h.2 i) : ∀ (fs : List Nat) (b : Nat), aw_fs g h' i b fs = aw_fs g h i b fs
  | [], b => rfl
  | f :: r, b => by simp only [aw_fs, aw_fv_congr h1 h2, aw_fs_congr h1 h2 r (b + 1)]
theorem aw_ce_congr {g : Geo} {h h' : HS} {i : Nat} {sp : SP} (h1 : h'.1 i = h.1 i) (h2 : h'.2 i = h.2 i) : aw_ce g h' i sp = aw_ce g h i sp := by
  obtain ⟨k, n, fs⟩ := sp
  match k with
  | 0 => simp [aw_ce, h1]
  | 1 => simp [aw_ce, h1]
  | 2 => rfl
  | c + 3 => simp only [aw_ce, aw_fs_congr h1 h2]
def setR (h : HS) (i : Nat) (f : Nat → Int32) : HS := (fun a => if a = i then f else h.1 a, h.2)
def setI (h : HS) (i j : Nat) (v : Int32) : HS := setR h i (upd (h.1 i) j v)
def setL (h : HS) (i j : Nat) (v : Int64) : HS := (h.1, fun a => if a = i then vp_updL (h.2 i) j v else h.2 a)
theorem aw_cz_set {g : Geo} {h h' : HS} {lay : List SP} {i : Nat} {sp : SP} (hi : lay[i]? = some sp) (ho : ∀ a, a ≠ i → h'.1 a = h.1 a ∧ h'.2 a = h.2 a) : aw_cz g h' 0 lay = (aw_cz g h 0 lay).set i (g.2.1 i, aw_ce g h' i sp) := by
  apply List.ext_getElem?
  intro j
  by_cases hj : j = i
  · subst hj
    rw [aw_cz_at hi, List.getElem?_set_self]
    have := aw_cz_at (g := g) (h := h) hi
    exact (List.getElem?_eq_some_iff.mp this).1
  · rw [List.getElem?_set_ne (Ne.symm hj), aw_cz_get, aw_cz_get]
    cases lay[j]? with
    | none => rfl
    | some q =>
      simp only [Option.map_some, Nat.zero_add]
      rw [aw_ce_congr (ho j hj).1 (ho j hj).2]
theorem aw_fs_setI {g : Geo} {h : HS} {i j : Nat} {v : Int32} {fs : List Nat} (hj : fs[j]? = some 0) : aw_fs g (setI h i j v) i 0 fs = (aw_fs g h i 0 fs).set j (.int v) := by
  apply List.ext_getElem?
  intro k
  by_cases hk : k = j
  · subst hk
    rw [aw_fs_at hj, List.getElem?_set_self (by have := aw_fs_at (g := g) (h := h) (i := i) hj; exact (List.getElem?_eq_some_iff.mp this).1)]
    simp [aw_fv, setI, setR, upd]
  · rw [List.getElem?_set_ne (Ne.symm hk), aw_fs_get, aw_fs_get]
    cases fs[k]? with
    | none => rfl
    | some f =>
      simp only [Option.map_some, Nat.zero_add]
      congr 1
      unfold aw_fv
      split
      · simp [setI, setR, upd, hk]
      · simp [setI, setR]
      · rfl
theorem aw_fs_setL {g : Geo} {h : HS} {i j : Nat} {v : Int64} {fs : List Nat} (hj : fs[j]? = some 1) : aw_fs g (setL h i j v) i 0 fs = (aw_fs g h i 0 fs).set j (.long v) := by
  apply List.ext_getElem?
  intro k
  by_cases hk : k = j
  · subst hk
    rw [aw_fs_at hj, List.getElem?_set_self (by have := aw_fs_at (g := g) (h := h) (i := i) hj; exact (List.getElem?_eq_some_iff.mp this).1)]
    simp [aw_fv, setL, vp_updL]
  · rw [List.getElem?_set_ne (Ne.symm hk), aw_fs_get, aw_fs_get]
    cases fs[k]? with
    | none => rfl
    | some f =>
      simp only [Option.map_some, Nat.zero_add]
      congr 1
      unfold aw_fv
      split
      · simp [setL]
      · simp [setL, vp_updL, hk]
      · rfl
theorem setR_o {h : HS} {i : Nat} {f : Nat → Int32} (a : Nat) (ha : a ≠ i) : (setR h i f).1 a = h.1 a ∧ (setR h i f).2 a = h.2 a := by simp [setR, ha]
theorem setI_o {h : HS} {i j : Nat} {v : Int32} (a : Nat) (ha : a ≠ i) : (setI h i j v).1 a = h.1 a ∧ (setI h i j v).2 a = h.2 a := setR_o a ha
theorem setL_o {h : HS} {i j : Nat} {v : Int64} (a : Nat) (ha : a ≠ i) : (setL h i j v).1 a = h.1 a ∧ (setL h i j v).2 a = h.2 a := by simp [setL, ha]
/-! the locals: none is a place of which nothing is known -/
def aw_lh (la : Array Slot) (nL : Nat) (L : List (Option Value)) : Prop := la.size = nL ∧ lv_wf la ∧ ∀ (i : Nat) (v : Value), L[i]? = some (some v) → la[i]? = some (.val v)
def aw_ac : Nat → List (Option Value) → List (Nat × Value)
  | _, [] => []
  | b, none :: r => aw_ac (b + 1) r
  | b, some v :: r => (b, v) :: aw_ac (b + 1) r
theorem aw_ac_mem : ∀ (L : List (Option Value)) (b : Nat) (q : Nat × Value), q ∈ aw_ac b L ↔ ∃ k, q.1 = b + k ∧ L[k]? = some (some q.2)
  | [], b, q => by simp [aw_ac]
  | none :: r, b, q => by
    simp only [aw_ac, aw_ac_mem r (b + 1) q]
    constructor
    · rintro ⟨k, h1, h2⟩
      exact ⟨k + 1, by omega, by simpa using h2⟩
    · rintro ⟨k, h1, h2⟩
      cases k with
      | zero => simp at h2
      | succ k => exact ⟨k, by omega, by simpa using h2⟩
  | some v :: r, b, q => by
    simp only [aw_ac, List.mem_cons, aw_ac_mem r (b + 1) q]
    constructor
    · rintro (h | ⟨k, h1, h2⟩)
      · exact ⟨0, by rw [h]; rfl, by rw [h]; rfl⟩
      · exact ⟨k + 1, by omega, by simpa using h2⟩
    · rintro ⟨k, h1, h2⟩
      cases k with
      | zero =>
        left
        obtain ⟨q1, q2⟩ := q
        simp at h1 h2
        simp [h1, h2]
      | succ k => exact Or.inr ⟨k, by omega, by simpa using h2⟩
theorem aw_lh_has {la : Array Slot} {nL : Nat} {L : List (Option Value)} (h : aw_lh la nL L) : lv_has la nL (aw_ac 0 L) := by
  refine ⟨h.1, h.2.1, fun q hq => ?_⟩
  obtain ⟨k, h1, h2⟩ := (aw_ac_mem L 0 q).mp hq
  rw [h1, Nat.zero_add]
  exact h.2.2 k q.2 h2
def aw_c1 (o : Option Value) : Bool := match o with
  | none => true
  | some v => v.category == 1
theorem aw_set1 {la : Array Slot} {nL i : Nat} {v : Value} {L : List (Option Value)} {lv : List (Nat × Value)} (h : lv_has la nL ((i, v) :: lv.filter (fun q => !(q.1 == i) && !(q.1 + 1 == i && q.2.category == 2)))) (hlv : ∀ (j : Nat) (w : Value), L[j]? = some (some w) → (j, w) ∈ lv)
    (hp : ∀ (j : Nat) (o : Option Value), j + 1 = i → L[j]? = some o → aw_c1 o = true) : aw_lh la nL (L.set i (some v)) := by
  refine ⟨h.1, h.2.1, fun j w hj => ?_⟩
  by_cases hji : j = i
  · subst hji
    have hlt : j < L.length := by
      have := (List.getElem?_eq_some_iff.mp hj).1
      simpa using this
    rw [List.getElem?_set_self hlt] at hj
    cases hj
    exact h.2.2 (j, v) List.mem_cons_self
  · rw [List.getElem?_set_ne (Ne.symm hji)] at hj
    refine h.2.2 (j, w) (List.mem_cons_of_mem _ (List.mem_filter.mpr ⟨hlv j w hj, ?_⟩))
    have h1 : (j == i) = false := by simpa using hji
    by_cases hq : j + 1 = i
    · have hc := hp j _ hq hj
      have hc2 : (w.category == 2) = false := by
        simp only [aw_c1, beq_iff_eq] at hc
        simp [hc]
      simp [h1, hc2]
    · have h2 : (j + 1 == i) = false := by simpa using hq
      simp [h1, h2]
theorem aw_set2 {la : Array Slot} {nL i : Nat} {v : Value} {L : List (Option Value)} {lv : List (Nat × Value)} (h : lv_has la nL ((i, v) :: lv.filter (fun q => !(q.1 == i) && (!(q.1 == i + 1) && !(q.1 + 1 == i && q.2.category == 2))))) (hlv : ∀ (j : Nat) (w : Value), L[j]? = some (some w) → (j, w) ∈ lv)
    (hp : ∀ (j : Nat) (o : Option Value), j + 1 = i → L[j]? = some o → aw_c1 o = true) : aw_lh la nL ((L.set i (some v)).set (i + 1) none) := by
  refine ⟨h.1, h.2.1, fun j w hj => ?_⟩
  by_cases hj1 : j = i + 1
  · subst hj1
    have hlt : i + 1 < (L.set i (some v)).length := by
      have := (List.getElem?_eq_some_iff.mp hj).1
      simpa using this
    rw [List.getElem?_set_self hlt] at hj
    cases hj
  rw [List.getElem?_set_ne (Ne.symm hj1)] at hj
  by_cases hji : j = i
  · subst hji
    have hlt : j < L.length := by
      have := (List.getElem?_eq_some_iff.mp hj).1
      simpa using this
    rw [List.getElem?_set_self hlt] at hj
    cases hj
    exact h.2.2 (j, v) List.mem_cons_self
  · rw [List.getElem?_set_ne (Ne.symm hji)] at hj
    refine h.2.2 (j, w) (List.mem_cons_of_mem _ (List.mem_filter.mpr ⟨hlv j w hj, ?_⟩))
    have h1 : (j == i) = false := by simpa using hji
    have h3 : (j == i + 1) = false := by simpa using hj1
    by_cases hq : j + 1 = i
    · have hc := hp j _ hq hj
      have hc2 : (w.category == 2) = false := by
        simp only [aw_c1, beq_iff_eq] at hc
        simp [hc]
      simp [h1, h3, hc2]
    · have h2 : (j + 1 == i) = false := by simpa using hq
      simp [h1, h3, h2]
theorem aw_ac_of {L : List (Option Value)} {j : Nat} {w : Value} (h : L[j]? = some (some w)) : (j, w) ∈ aw_ac 0 L := (aw_ac_mem L 0 (j, w)).mpr ⟨j, by simp, h⟩
/-- a method's locals at its start -/
def aw_en : List Value → List (Option Value)
  | [] => []
  | v :: r => if v.category = 2 then some v :: none :: aw_en r else some v :: aw_en r
theorem aw_en_mem : ∀ (vs : List Value) (b j : Nat) (w : Value), (aw_en vs)[j]? = some (some w) → (b + j, w) ∈ lv_args b vs
  | [], b, j, w, h => by simp [aw_en] at h
  | v :: r, b, j, w, h => by
    by_cases hc : v.category = 2
    · simp only [aw_en, hc, if_true] at h
      simp only [lv_args, hc, if_true]
      match j, h with
      | 0, h => simp at h; simp [h]
      | 1, h => simp at h
      | j + 2, h =>
        have := aw_en_mem r (b + 2) j w (by simpa using h)
        rw [show b + (j + 2) = b + 2 + j by omega]
        exact List.mem_cons_of_mem _ this
    · simp only [aw_en, hc, if_false] at h
      simp only [lv_args, hc, if_false]
      match j, h with
      | 0, h => simp at h; simp [h]
      | j + 1, h =>
        have := aw_en_mem r (b + 1) j w (by simpa using h)
        rw [show b + (j + 1) = b + 1 + j by omega]
        exact List.mem_cons_of_mem _ this
/-! the tables' words: one list for all methods -/
def aw_ws (mi : MI) : List Cond := .code mi.1 mi.2.1 mi.2.2.1 mi.2.2.2 :: aw_tb
def aw_rm (d : Nat) : Room := { frames := d, cells := 0, slots := 0, locals := 36 * d }
theorem aw_good {w : Cond} (h : w ∈ aw_tb) : (w.onTables && w.keeps) = true ∨ ∃ ty, w = .arrayClass ty := good_of_word (List.mem_filter.mp h).2
theorem aw_goodIn {mi mi' : MI} (h : Cond.code mi'.1 mi'.2.1 mi'.2.2.1 mi'.2.2.2 ∈ aw_tb) : GoodIn (aw_ws mi) (aw_ws mi') := by
  intro w hw
  rcases List.mem_cons.mp hw with rfl | hw
  · exact ⟨List.mem_cons_of_mem _ h, aw_good h⟩
  · exact ⟨List.mem_cons_of_mem _ hw, aw_good hw⟩
/-! words of nest mates, and the static rows -/
def aw_nw (w : Cond) : Bool := match w with
  | .fieldLinkNest .. => true
  | .methodLinkNest .. => true
  | _ => false
def aw_N (U : State) : Prop := (∀ w ∈ lw_tbl, aw_nw w = true → va_Nw w U) ∧ va_AO "ManyNames$Sheet" U
theorem aw_N.warm {s U : State} (hW : s.WarmedH U.vm) (h : aw_N s) : aw_N U := by
  refine ⟨?_, h.2.moved hW.alike⟩
  intro w hw hn
  have := h.1 w hw hn
  cases w <;> first | exact va_Nw.warmF hW this | exact va_Nw.warmM hW this | cases hn
theorem aw_N.same {s U : State} (hv : s.vm = U.vm) (h : aw_N s) : aw_N U := by
  refine ⟨?_, h.2.moved (by rw [hv]; exact Vm.Alike.refl _)⟩
  intro w hw hn
  have := h.1 w hw hn
  refine va_Nw.same ?_ hv this
  cases w <;> first | rfl | cases hn
theorem aw_N.of {args : Array Value} {s : State} (hts : ∀ w ∈ lw_tbl, w.before args s = true) (hao : Cond.arrayOver (.object "ManyNames$Sheet") ∈ lw_tbl) : aw_N s := by
  refine ⟨?_, va_AO.of (hts _ hao)⟩
  intro w hw hn
  refine va_Nw.of ?_ (hts w hw)
  cases w <;> first | rfl | cases hn
def aw_r0 (j : Nat) : Int32 := ([100, 80, 50, 0, 10, 20, 100, 10, 100, 8] : List Int32).getD j 0
def aw_r1 (j : Nat) : Int32 := ([0, 0, 0, 0, 0, 0, 1, 0, 0, 1] : List Int32).getD j 0
def aw_r2 (j : Nat) : Int32 := ([100, 100, 100, 100, 100, 100, 999, 100, 999, 10] : List Int32).getD j 0
def aw_Z1 (n : String) (f : Nat → Int32) (t : Nat) (A : Nat → Prop) (U : State) (H : Heap) : Prop := va_Z "ManyNames" n "[I" (.ref t) A U H ∧ va_X t 10 f U H ∧ t < H.size ∧ ¬ A t
theorem aw_Z1.go {n : String} {f : Nat → Int32} {t : Nat} {A B : Nat → Prop} {s U : State} {H : Heap} (h : aw_Z1 n f t A s s.heap) (hvm : s.vm.Alike U.vm) (hH : s.heap.size ≤ H.size) (hq : ∀ a : Nat, a < s.heap.size → ¬ A a → H[a]? = s.heap[a]?) (hAB : ∀ q, B q → A q) : aw_Z1 n f t B U H :=
  ⟨((h.1.moved hvm).kept hq).narrow hAB, (h.2.1.moved hvm).kept (hq t h.2.2.1 h.2.2.2), Nat.lt_of_lt_of_le h.2.2.1 hH, fun z => h.2.2.2 (hAB _ z)⟩
/-- the texts of the tape: met, dealt, said, bought, fade, word, seed, pledge, fine, good, and none -/
def aw_tx (i : Nat) : String := (["met", "dealt", "said", "bought", "fade", "word", "seed", "pledge", "fine", "good", ""] : List String).getD i ""
def aw_tl (i : Nat) : Nat := ([3, 5, 4, 6, 4, 4, 4, 6, 4, 4, 0] : List Nat).getD i 0
def aw_tc (i j : Nat) : Int32 := (([[109, 101, 116], [100, 101, 97, 108, 116], [115, 97, 105, 100], [98, 111, 117, 103, 104, 116], [102, 97, 100, 101], [119, 111, 114, 100], [115, 101, 101, 100], [112, 108, 101, 100, 103, 101], [102, 105, 110, 101], [103, 111, 111, 100], []] : List (List Int32)).getD i []).getD j 0
def aw_Zt (sta : Nat → Nat) (i : Nat) (A : Nat → Prop) (U : State) (H : Heap) : Prop := vk_R "ManyNames$Tape" (91 + 2 * i) (aw_tx i) (sta (3 + i)) U ∧ va_O "java/lang/String" (sta (3 + i)) A U H ∧ va_OF "java/lang/String" "coder" "B" (.int 0) (sta (3 + i)) A U H ∧ va_OF "java/lang/String" "value" "[B" (.ref (sta (14 + i))) (sta (3 + i)) A U H ∧ va_T .byte (sta (14 + i)) (aw_tl i) (fun j => .int (aw_tc i j)) A U H
theorem aw_Zt.go {sta : Nat → Nat} {i : Nat} {A B : Nat → Prop} {s U : State} {H : Heap} (h : aw_Zt sta i A s s.heap) (hvm : s.vm.Alike U.vm) (hR : ∀ (own : String) (k : Nat) (tx : String) (a : Nat), vk_R own k tx a s → vk_R own k tx a U) (hq : ∀ a : Nat, a < s.heap.size → ¬ A a → H[a]? = s.heap[a]?) (hAB : ∀ q, B q → A q) : aw_Zt sta i B U H :=
  ⟨hR _ _ _ _ h.1, ((h.2.1.moved hvm).kept hq).narrow hAB, ((h.2.2.1.moved hvm).kept hq).narrow hAB, ((h.2.2.2.1.moved hvm).kept hq).narrow hAB, ((h.2.2.2.2.moved hvm).kept hq).narrow hAB⟩
/-- a reference, or none -/
def aw_sv (sta : Nat → Nat) : Value := if sta 26 = 0 then .null else .ref (sta 25)
def aw_ZS (sta : Nat → Nat) (A : Nat → Prop) (U : State) (H : Heap) : Prop := (∀ i, i < 11 → aw_Zt sta i A U H) ∧ va_Z "java/lang/String" "COMPACT_STRINGS" "Z" (.int 1) A U H ∧ va_Z "jdk/internal/util/Preconditions" "SIOOBE_FORMATTER" "Ljava/util/function/BiFunction;" (aw_sv sta) A U H
theorem aw_ZS.go {sta : Nat → Nat} {A B : Nat → Prop} {s U : State} {H : Heap} (h : aw_ZS sta A s s.heap) (hvm : s.vm.Alike U.vm) (hR : ∀ (own : String) (k : Nat) (tx : String) (a : Nat), vk_R own k tx a s → vk_R own k tx a U) (hq : ∀ a : Nat, a < s.heap.size → ¬ A a → H[a]? = s.heap[a]?) (hAB : ∀ q, B q → A q) : aw_ZS sta B U H :=
  ⟨fun i hi => (h.1 i hi).go hvm hR hq hAB, ((h.2.1.moved hvm).kept hq).narrow hAB, ((h.2.2.moved hvm).kept hq).narrow hAB⟩
def aw_Z (sta : Nat → Nat) (A : Nat → Prop) (U : State) (H : Heap) : Prop := aw_Z1 "RULES_AT_FIRST" aw_r0 (sta 0) A U H ∧ aw_Z1 "RULES_LEAST" aw_r1 (sta 1) A U H ∧ aw_Z1 "RULES_MOST" aw_r2 (sta 2) A U H ∧ aw_ZS sta A U H
theorem aw_Z.go {sta : Nat → Nat} {A B : Nat → Prop} {s U : State} {H : Heap} (h : aw_Z sta A s s.heap) (hvm : s.vm.Alike U.vm) (hR : ∀ (own : String) (k : Nat) (tx : String) (a : Nat), vk_R own k tx a s → vk_R own k tx a U) (hH : s.heap.size ≤ H.size) (hq : ∀ a : Nat, a < s.heap.size → ¬ A a → H[a]? = s.heap[a]?) (hAB : ∀ q, B q → A q) : aw_Z sta B U H :=
  ⟨h.1.go hvm hH hq hAB, h.2.1.go hvm hH hq hAB, h.2.2.1.go hvm hH hq hAB, h.2.2.2.go hvm hR hq hAB⟩
/-! a world, a contract, a walk -/
abbrev KT : Type := Program × Env × State × MethodId × Array Value × List Frame × Method × Code × (Nat → Prop)
def aw_tys (g : Geo) : List (ClassId × FieldType) := [(g.2.2.1, .int), (g.2.2.2.1, .boolean), (g.2.2.2.2, .object "ManyNames$Sheet")]
abbrev aw_w (w : WT) (h : HS) : va_W := aw_cz w.2.1 h 0 w.2.2.1
def aw_Q (w : WT) (A : Nat → Prop) (P : Option Value → HS → Prop) : Array Value → State → Outcome → State → Prop := fun _ st oc t => (∃ (o : Option Value) (h' : HS), oc = .returned o ∧ P o h' ∧ va_P w.2.1.1 vwCl (aw_w w h') t.heap) ∧ va_F A st t
def aw_B (w : WT) (h : HS) (sz : Nat) : State → Prop := fun U => U.heap.size = sz ∧ va_P w.2.1.1 vwCl (aw_w w h) U.heap ∧ va_K w.2.1.1 vwCl (aw_tys w.2.1) U ∧ va_D (fun _ => True) (aw_w w h) ∧ aw_N U ∧ aw_Z w.2.2.2 (va_A (aw_w w h) sz) U U.heap
/-- the contract of a method: called with these values over h it returns, with P -/
def CT (w : WT) (d : Nat) (mi : MI) (av : List Value) (h : HS) (P : Option Value → HS → Prop) : Prop :=
  ∀ sz : Nat, Met w.1 mi.1 (aw_ws mi) (aw_rm d) (va_Pc av (aw_B w h sz)) (aw_Q w (va_A (aw_w w h) sz) P) 0 0 (va_A (aw_w w h) sz)
def AW (w : WT) (P : Option Value → HS → Prop) (d : Nat) (mi : MI) (k : KT) (pc : Nat) (L : List (Option Value)) (st : List Value) (h : HS) : Prop := match k with
  | (p, e, s, m, args, below, meth, c, A) => ∀ (H : Heap) (locs : List Loc) (la : Array Slot), aw_lh la mi.2.2.1 L → va_P w.2.1.1 vwCl (aw_w w h) H → va_D A (aw_w w h) → va_S A s.heap H locs →
    W p w.1 e (aw_rm d) s m args below meth c H locs 0 0 (MQ below (aw_Q w A P) args s 0 0 A) (F0 m pc la st)
def AOK (w : WT) (mi : MI) (k : KT) : Prop := match k with
  | (p, e, s, m, args, below, meth, c, A) => p.tables.exec = Jvm.exec ∧ c.code = mi.2.1 ∧ c.maxLocals = mi.2.2.1 ∧ s.vm.findClass mi.1.cls = some m.cls ∧ (∀ w ∈ aw_ws mi, w.before args s = true) ∧ meth.sig.returnType = mi.2.2.2 ∧ meth.locks = false ∧ va_K w.2.1.1 vwCl (aw_tys w.2.1) s ∧ (∀ q, s.heap.size ≤ q → A q) ∧ aw_N s ∧ aw_Z w.2.2.2 A s s.heap
theorem aw_A_eq {g : Geo} {h h' : HS} {lay : List SP} {sz : Nat} {q : Nat} (hq : va_A (aw_cz g h 0 lay) sz q) : va_A (aw_cz g h' 0 lay) sz q := by
  rcases hq with ⟨k, e, hk⟩ | hq
  · left
    rw [aw_cz_get] at hk
    cases hl : lay[k]? with
    | none => rw [hl] at hk; cases hk
    | some sp =>
      rw [hl] at hk
      have h2 := Option.some.inj hk
      refine ⟨k, aw_ce g h' k sp, ?_⟩
      rw [aw_cz_at hl]
      have : g.2.1 (0 + k) = q := congrArg Prod.fst h2
      rw [Nat.zero_add] at this
      rw [this]
  · exact Or.inr hq
theorem aw_D_eq {g : Geo} {h h' : HS} {lay : List SP} {A : Nat → Prop} (hD : va_D A (aw_cz g h 0 lay)) : va_D A (aw_cz g h' 0 lay) := by
  have key : ∀ (k : Nat) (q : Nat × va_E), (aw_cz g h' 0 lay)[k]? = some q → ∃ e, (aw_cz g h 0 lay)[k]? = some (q.1, e) := by
    intro k q hk
    rw [aw_cz_get] at hk
    cases hl : lay[k]? with
    | none => rw [hl] at hk; cases hk
    | some sp =>
      rw [hl] at hk
      have h2 := Option.some.inj hk
      refine ⟨aw_ce g h k sp, ?_⟩
      rw [aw_cz_at hl, ← h2, Nat.zero_add]
  refine ⟨fun i j p q hi hj hpq => ?_, fun k q hk => ?_⟩
  · obtain ⟨e1, h1⟩ := key i p hi
    obtain ⟨e2, h2⟩ := key j q hj
    exact hD.1 i j _ _ h1 h2 hpq
  · obtain ⟨e1, h1⟩ := key k q hk
    exact hD.2 k (q.1, e1) h1
/-- a contract out of a walk -/
theorem CT.of {w : WT} {d : Nat} {mi : MI} {av : List Value} {h : HS} {P : Option Value → HS → Prop} (hy : plainName mi.1.cls = true) (hn : (lg_sl av).length ≤ mi.2.2.1)
    (body : ∀ k : KT, AOK w mi k → AW w P d mi k 0 (aw_en av) [] h) : CT w d mi av h P := by
  intro sz
  refine Met.ofW (cc := mi.2.1) (maxL := mi.2.2.1) (ret := mi.2.2.2) hy rfl ?_
  intro p e s m args below meth c s₁ B hml hv
  obtain ⟨rfl, hsz, hP, hK, hD0, hN, hZ⟩ := hv
  have hts := atoms_spec (ws := aw_ws mi) B.pre
  have hown : s.vm.findClass mi.1.cls = some m.cls := findClass_of_methodNamed B.named
  subst hsz
  have hD := hD0.self (sz := s.heap.size)
  have hb := body (p, e, s, m, av.toArray, below, meth, c, va_A (aw_w w h) s.heap.size) ⟨B.exec, B.bytes, hml, hown, hts, B.returns, B.notSynchronized, hK, fun q hq => Or.inr hq, hN, hZ⟩
  have hl := lv_entry av (n := mi.2.2.1) hn
  rw [lg_entry_eq]
  refine hb _ _ _ ⟨hl.1, hl.2.1, fun i v hi => ?_⟩ hP hD va_S.rf
  have := aw_en_mem av 0 i v hi
  rw [Nat.zero_add] at this
  exact hl.2.2 (i, v) this
theorem CT.imp {w : WT} {d : Nat} {mi : MI} {av : List Value} {h : HS} {P P' : Option Value → HS → Prop} (hc : CT w d mi av h P) (hp : ∀ o h', P o h' → P' o h') : CT w d mi av h P' := by
  intro sz p e ha hcc hk s m args below hf happ hpre ht
  obtain ⟨t, o, h1, h2, h3, ⟨⟨o2, h', e1, e2, e3⟩, h5⟩, h6⟩ := hc sz p e ha hcc hk s m args below hf happ hpre ht
  exact ⟨t, o, h1, h2, h3, ⟨⟨o2, h', e1, hp _ _ e2, e3⟩, h5⟩, h6⟩

section AWR
variable {w : WT} {P : Option Value → HS → Prop} {d : Nat} {mi : MI} {k : KT} {pc : Nat} {L : List (Option Value)} {st : List Value} {h : HS}
theorem aw_iconst (K : AOK w mi k) {n0 : Int} {v : Int32} (hd : decode mi.2.1 pc = .ok (.iconst n0, 1)) (hv : Int32.ofInt n0 = v) (n : AW w P d mi k (pc + 1) L (.int v :: st) h) : AW w P d mi k pc L (st) h := by
  obtain ⟨p, e, s, m, args, below, meth, c, A⟩ := k
  exact fun H lo la a1 a2 a3 a4 => lv_iconst K.1 K.2.1 hd hv (n H lo la a1 a2 a3 a4)
theorem aw_bipush (K : AOK w mi k) {n0 : Int} {v : Int32} (hd : decode mi.2.1 pc = .ok (.bipush n0, 2)) (hv : (Int8.ofInt n0).toInt32 = v) (n : AW w P d mi k (pc + 2) L (.int v :: st) h) : AW w P d mi k pc L (st) h := by
  obtain ⟨p, e, s, m, args, below, meth, c, A⟩ := k
  exact fun H lo la a1 a2 a3 a4 => lv_bipush K.1 K.2.1 hd hv (n H lo la a1 a2 a3 a4)
theorem aw_sipush (K : AOK w mi k) {n0 : Int} {v : Int32} (hd : decode mi.2.1 pc = .ok (.sipush n0, 3)) (hv : (Int16.ofInt n0).toInt32 = v) (n : AW w P d mi k (pc + 3) L (.int v :: st) h) : AW w P d mi k pc L (st) h := by
  obtain ⟨p, e, s, m, args, below, meth, c, A⟩ := k
  exact fun H lo la a1 a2 a3 a4 => lv_sipush K.1 K.2.1 hd hv (n H lo la a1 a2 a3 a4)
theorem aw_lconst (K : AOK w mi k) {n0 : Fin 2} {v : Int64} (hd : decode mi.2.1 pc = .ok (.lconst n0, 1)) (hv : Int64.ofNat (n0 : Nat) = v) (n : AW w P d mi k (pc + 1) L (.long v :: st) h) : AW w P d mi k pc L (st) h := by
  obtain ⟨p, e, s, m, args, below, meth, c, A⟩ := k
  exact fun H lo la a1 a2 a3 a4 => lv_lconst K.1 K.2.1 hd hv (n H lo la a1 a2 a3 a4)
theorem aw_iadd (K : AOK w mi k) {x y : Int32} (hd : decode mi.2.1 pc = .ok (.iadd, 1)) (n : AW w P d mi k (pc + 1) L (.int (x + y) :: st) h) : AW w P d mi k pc L (.int y :: .int x :: st) h := by
  obtain ⟨p, e, s, m, args, below, meth, c, A⟩ := k
  exact fun H lo la a1 a2 a3 a4 => lv_iadd K.1 K.2.1 hd (n H lo la a1 a2 a3 a4)
theorem aw_isub (K : AOK w mi k) {x y : Int32} (hd : decode mi.2.1 pc = .ok (.isub, 1)) (n : AW w P d mi k (pc + 1) L (.int (x - y) :: st) h) : AW w P d mi k pc L (.int y :: .int x :: st) h := by
  obtain ⟨p, e, s, m, args, below, meth, c, A⟩ := k
  exact fun H lo la a1 a2 a3 a4 => lv_isub K.1 K.2.1 hd (n H lo la a1 a2 a3 a4)
theorem aw_imul (K : AOK w mi k) {x y : Int32} (hd : decode mi.2.1 pc = .ok (.imul, 1)) (n : AW w P d mi k (pc + 1) L (.int (x * y) :: st) h) : AW w P d mi k pc L (.int y :: .int x :: st) h := by
  obtain ⟨p, e, s, m, args, below, meth, c, A⟩ := k
  exact fun H lo la a1 a2 a3 a4 => lv_imul K.1 K.2.1 hd (n H lo la a1 a2 a3 a4)
theorem aw_iand (K : AOK w mi k) {x y : Int32} (hd : decode mi.2.1 pc = .ok (.iand, 1)) (n : AW w P d mi k (pc + 1) L (.int (x &&& y) :: st) h) : AW w P d mi k pc L (.int y :: .int x :: st) h := by
  obtain ⟨p, e, s, m, args, below, meth, c, A⟩ := k
  exact fun H lo la a1 a2 a3 a4 => lv_iand K.1 K.2.1 hd (n H lo la a1 a2 a3 a4)
theorem aw_ior (K : AOK w mi k) {x y : Int32} (hd : decode mi.2.1 pc = .ok (.ior, 1)) (n : AW w P d mi k (pc + 1) L (.int (x ||| y) :: st) h) : AW w P d mi k pc L (.int y :: .int x :: st) h := by
  obtain ⟨p, e, s, m, args, below, meth, c, A⟩ := k
  exact fun H lo la a1 a2 a3 a4 => lv_ior K.1 K.2.1 hd (n H lo la a1 a2 a3 a4)
theorem aw_ixor (K : AOK w mi k) {x y : Int32} (hd : decode mi.2.1 pc = .ok (.ixor, 1)) (n : AW w P d mi k (pc + 1) L (.int (x ^^^ y) :: st) h) : AW w P d mi k pc L (.int y :: .int x :: st) h := by
  obtain ⟨p, e, s, m, args, below, meth, c, A⟩ := k
  exact fun H lo la a1 a2 a3 a4 => lv_ixor K.1 K.2.1 hd (n H lo la a1 a2 a3 a4)
theorem aw_ishl (K : AOK w mi k) {x y : Int32} (hd : decode mi.2.1 pc = .ok (.ishl, 1)) (n : AW w P d mi k (pc + 1) L (.int (x <<< (y &&& 31)) :: st) h) : AW w P d mi k pc L (.int y :: .int x :: st) h := by
  obtain ⟨p, e, s, m, args, below, meth, c, A⟩ := k
  exact fun H lo la a1 a2 a3 a4 => lv_ishl K.1 K.2.1 hd (n H lo la a1 a2 a3 a4)
theorem aw_ishr (K : AOK w mi k) {x y : Int32} (hd : decode mi.2.1 pc = .ok (.ishr, 1)) (n : AW w P d mi k (pc + 1) L (.int (x >>> (y &&& 31)) :: st) h) : AW w P d mi k pc L (.int y :: .int x :: st) h := by
  obtain ⟨p, e, s, m, args, below, meth, c, A⟩ := k
  exact fun H lo la a1 a2 a3 a4 => lv_ishr K.1 K.2.1 hd (n H lo la a1 a2 a3 a4)
theorem aw_iushr (K : AOK w mi k) {x y : Int32} (hd : decode mi.2.1 pc = .ok (.iushr, 1)) (n : AW w P d mi k (pc + 1) L (.int ((x.toUInt32 >>> (y.toUInt32 &&& Int32.toUInt32 31)).toInt32) :: st) h) : AW w P d mi k pc L (.int y :: .int x :: st) h := by
  obtain ⟨p, e, s, m, args, below, meth, c, A⟩ := k
  exact fun H lo la a1 a2 a3 a4 => lv_iushr K.1 K.2.1 hd rfl (n H lo la a1 a2 a3 a4)
theorem aw_idiv (K : AOK w mi k) {x y : Int32} (hd : decode mi.2.1 pc = .ok (.idiv, 1)) (hne : ¬ y = 0) (n : AW w P d mi k (pc + 1) L (.int (x / y) :: st) h) : AW w P d mi k pc L (.int y :: .int x :: st) h := by
  obtain ⟨p, e, s, m, args, below, meth, c, A⟩ := k
  exact fun H lo la a1 a2 a3 a4 => lv_idiv K.1 K.2.1 hd hne (n H lo la a1 a2 a3 a4)
theorem aw_irem (K : AOK w mi k) {x y : Int32} (hd : decode mi.2.1 pc = .ok (.irem, 1)) (hne : ¬ y = 0) (n : AW w P d mi k (pc + 1) L (.int (x - x / y * y) :: st) h) : AW w P d mi k pc L (.int y :: .int x :: st) h := by
  obtain ⟨p, e, s, m, args, below, meth, c, A⟩ := k
  exact fun H lo la a1 a2 a3 a4 => lv_irem K.1 K.2.1 hd hne (n H lo la a1 a2 a3 a4)
theorem aw_ineg (K : AOK w mi k) {x : Int32} (hd : decode mi.2.1 pc = .ok (.ineg, 1)) (n : AW w P d mi k (pc + 1) L (.int (-x) :: st) h) : AW w P d mi k pc L (.int x :: st) h := by
  obtain ⟨p, e, s, m, args, below, meth, c, A⟩ := k
  exact fun H lo la a1 a2 a3 a4 => lv_ineg K.1 K.2.1 hd (n H lo la a1 a2 a3 a4)
theorem aw_ladd (K : AOK w mi k) {x y : Int64} (hd : decode mi.2.1 pc = .ok (.ladd, 1)) (n : AW w P d mi k (pc + 1) L (.long (x + y) :: st) h) : AW w P d mi k pc L (.long y :: .long x :: st) h := by
  obtain ⟨p, e, s, m, args, below, meth, c, A⟩ := k
  exact fun H lo la a1 a2 a3 a4 => lv_ladd K.1 K.2.1 hd (n H lo la a1 a2 a3 a4)
theorem aw_lsub (K : AOK w mi k) {x y : Int64} (hd : decode mi.2.1 pc = .ok (.lsub, 1)) (n : AW w P d mi k (pc + 1) L (.long (x - y) :: st) h) : AW w P d mi k pc L (.long y :: .long x :: st) h := by
  obtain ⟨p, e, s, m, args, below, meth, c, A⟩ := k
  exact fun H lo la a1 a2 a3 a4 => lv_lsub K.1 K.2.1 hd (n H lo la a1 a2 a3 a4)
theorem aw_lmul (K : AOK w mi k) {x y : Int64} (hd : decode mi.2.1 pc = .ok (.lmul, 1)) (n : AW w P d mi k (pc + 1) L (.long (x * y) :: st) h) : AW w P d mi k pc L (.long y :: .long x :: st) h := by
  obtain ⟨p, e, s, m, args, below, meth, c, A⟩ := k
  exact fun H lo la a1 a2 a3 a4 => lv_lmul K.1 K.2.1 hd (n H lo la a1 a2 a3 a4)
theorem aw_land (K : AOK w mi k) {x y : Int64} (hd : decode mi.2.1 pc = .ok (.land, 1)) (n : AW w P d mi k (pc + 1) L (.long (x &&& y) :: st) h) : AW w P d mi k pc L (.long y :: .long x :: st) h := by
  obtain ⟨p, e, s, m, args, below, meth, c, A⟩ := k
  exact fun H lo la a1 a2 a3 a4 => lv_land K.1 K.2.1 hd (n H lo la a1 a2 a3 a4)
theorem aw_lor (K : AOK w mi k) {x y : Int64} (hd : decode mi.2.1 pc = .ok (.lor, 1)) (n : AW w P d mi k (pc + 1) L (.long (x ||| y) :: st) h) : AW w P d mi k pc L (.long y :: .long x :: st) h := by
  obtain ⟨p, e, s, m, args, below, meth, c, A⟩ := k
  exact fun H lo la a1 a2 a3 a4 => lv_lor K.1 K.2.1 hd (n H lo la a1 a2 a3 a4)
theorem aw_ldiv (K : AOK w mi k) {x y : Int64} (hd : decode mi.2.1 pc = .ok (.ldiv, 1)) (hne : ¬ y = 0) (n : AW w P d mi k (pc + 1) L (.long (x / y) :: st) h) : AW w P d mi k pc L (.long y :: .long x :: st) h := by
  obtain ⟨p, e, s, m, args, below, meth, c, A⟩ := k
  exact fun H lo la a1 a2 a3 a4 => lv_ldiv K.1 K.2.1 hd hne (n H lo la a1 a2 a3 a4)
theorem aw_lrem (K : AOK w mi k) {x y : Int64} (hd : decode mi.2.1 pc = .ok (.lrem, 1)) (hne : ¬ y = 0) (n : AW w P d mi k (pc + 1) L (.long (x - x / y * y) :: st) h) : AW w P d mi k pc L (.long y :: .long x :: st) h := by
  obtain ⟨p, e, s, m, args, below, meth, c, A⟩ := k
  exact fun H lo la a1 a2 a3 a4 => lv_lrem K.1 K.2.1 hd hne (n H lo la a1 a2 a3 a4)
theorem aw_lcmp (K : AOK w mi k) {x y : Int64} (hd : decode mi.2.1 pc = .ok (.lcmp, 1)) (n : AW w P d mi k (pc + 1) L (.int (lg_cmp x y) :: st) h) : AW w P d mi k pc L (.long y :: .long x :: st) h := by
  obtain ⟨p, e, s, m, args, below, meth, c, A⟩ := k
  exact fun H lo la a1 a2 a3 a4 => W.lcmp K.1 K.2.1 hd (n H lo la a1 a2 a3 a4)
theorem aw_lshl (K : AOK w mi k) {x : Int64} {y : Int32} (hd : decode mi.2.1 pc = .ok (.lshl, 1)) (n : AW w P d mi k (pc + 1) L (.long (x <<< (y.toInt64 &&& 63)) :: st) h) : AW w P d mi k pc L (.int y :: .long x :: st) h := by
  obtain ⟨p, e, s, m, args, below, meth, c, A⟩ := k
  exact fun H lo la a1 a2 a3 a4 => lv_lshl K.1 K.2.1 hd rfl (n H lo la a1 a2 a3 a4)
theorem aw_lshr (K : AOK w mi k) {x : Int64} {y : Int32} (hd : decode mi.2.1 pc = .ok (.lshr, 1)) (n : AW w P d mi k (pc + 1) L (.long (x >>> (y.toInt64 &&& 63)) :: st) h) : AW w P d mi k pc L (.int y :: .long x :: st) h := by
  obtain ⟨p, e, s, m, args, below, meth, c, A⟩ := k
  exact fun H lo la a1 a2 a3 a4 => lv_lshr K.1 K.2.1 hd rfl (n H lo la a1 a2 a3 a4)
theorem aw_lushr (K : AOK w mi k) {x : Int64} {y : Int32} (hd : decode mi.2.1 pc = .ok (.lushr, 1)) (n : AW w P d mi k (pc + 1) L (.long ((x.toUInt64 >>> (y.toInt64.toUInt64 &&& Int64.toUInt64 63)).toInt64) :: st) h) : AW w P d mi k pc L (.int y :: .long x :: st) h := by
  obtain ⟨p, e, s, m, args, below, meth, c, A⟩ := k
  exact fun H lo la a1 a2 a3 a4 => lv_lushr K.1 K.2.1 hd rfl (n H lo la a1 a2 a3 a4)
theorem aw_i2l (K : AOK w mi k) {x : Int32} (hd : decode mi.2.1 pc = .ok (.i2l, 1)) (n : AW w P d mi k (pc + 1) L (.long x.toInt64 :: st) h) : AW w P d mi k pc L (.int x :: st) h := by
  obtain ⟨p, e, s, m, args, below, meth, c, A⟩ := k
  exact fun H lo la a1 a2 a3 a4 => lv_i2l K.1 K.2.1 hd rfl (n H lo la a1 a2 a3 a4)
theorem aw_l2i (K : AOK w mi k) {x : Int64} (hd : decode mi.2.1 pc = .ok (.l2i, 1)) (n : AW w P d mi k (pc + 1) L (.int x.toInt32 :: st) h) : AW w P d mi k pc L (.long x :: st) h := by
  obtain ⟨p, e, s, m, args, below, meth, c, A⟩ := k
  exact fun H lo la a1 a2 a3 a4 => lv_l2i K.1 K.2.1 hd rfl (n H lo la a1 a2 a3 a4)
theorem aw_i2b (K : AOK w mi k) {x : Int32} (hd : decode mi.2.1 pc = .ok (.i2b, 1)) (n : AW w P d mi k (pc + 1) L (.int x.toInt8.toInt32 :: st) h) : AW w P d mi k pc L (.int x :: st) h := by
  obtain ⟨p, e, s, m, args, below, meth, c, A⟩ := k
  exact fun H lo la a1 a2 a3 a4 => lv_i2b K.1 K.2.1 hd rfl (n H lo la a1 a2 a3 a4)
theorem aw_i2s (K : AOK w mi k) {x : Int32} (hd : decode mi.2.1 pc = .ok (.i2s, 1)) (n : AW w P d mi k (pc + 1) L (.int x.toInt16.toInt32 :: st) h) : AW w P d mi k pc L (.int x :: st) h := by
  obtain ⟨p, e, s, m, args, below, meth, c, A⟩ := k
  exact fun H lo la a1 a2 a3 a4 => lv_i2s K.1 K.2.1 hd rfl (n H lo la a1 a2 a3 a4)
theorem aw_dup (K : AOK w mi k) {va : Value} (hd : decode mi.2.1 pc = .ok (.dup, 1)) (hva : va.category = 1) (n : AW w P d mi k (pc + 1) L (va :: va :: st) h) : AW w P d mi k pc L (va :: st) h := by
  obtain ⟨p, e, s, m, args, below, meth, c, A⟩ := k
  exact fun H lo la a1 a2 a3 a4 => lv_dup K.1 K.2.1 hd hva (n H lo la a1 a2 a3 a4)
theorem aw_pop (K : AOK w mi k) {va : Value} (hd : decode mi.2.1 pc = .ok (.pop, 1)) (hva : va.category = 1) (n : AW w P d mi k (pc + 1) L (st) h) : AW w P d mi k pc L (va :: st) h := by
  obtain ⟨p, e, s, m, args, below, meth, c, A⟩ := k
  exact fun H lo la a1 a2 a3 a4 => lv_pop K.1 K.2.1 hd hva (n H lo la a1 a2 a3 a4)
theorem aw_pop2 (K : AOK w mi k) {va : Value} (hd : decode mi.2.1 pc = .ok (.pop2, 1)) (hva : va.category = 2) (n : AW w P d mi k (pc + 1) L (st) h) : AW w P d mi k pc L (va :: st) h := by
  obtain ⟨p, e, s, m, args, below, meth, c, A⟩ := k
  exact fun H lo la a1 a2 a3 a4 => lv_pop2_2 K.1 K.2.1 hd hva (n H lo la a1 a2 a3 a4)
theorem aw_dup_x1 (K : AOK w mi k) {va vb : Value} (hd : decode mi.2.1 pc = .ok (.dup_x1, 1)) (hva : va.category = 1) (hvb : vb.category = 1) (n : AW w P d mi k (pc + 1) L (va :: vb :: va :: st) h) : AW w P d mi k pc L (va :: vb :: st) h := by
  obtain ⟨p, e, s, m, args, below, meth, c, A⟩ := k
  exact fun H lo la a1 a2 a3 a4 => lv_dup_x1 K.1 K.2.1 hd hva hvb (n H lo la a1 a2 a3 a4)
theorem aw_dup_x2 (K : AOK w mi k) {va vb vd : Value} (hd : decode mi.2.1 pc = .ok (.dup_x2, 1)) (hva : va.category = 1) (hvb : vb.category = 1) (hvd : vd.category = 1) (n : AW w P d mi k (pc + 1) L (va :: vb :: vd :: va :: st) h) : AW w P d mi k pc L (va :: vb :: vd :: st) h := by
  obtain ⟨p, e, s, m, args, below, meth, c, A⟩ := k
  exact fun H lo la a1 a2 a3 a4 => lv_dup_x2 K.1 K.2.1 hd hva hvb hvd (n H lo la a1 a2 a3 a4)
theorem aw_dup2_11 (K : AOK w mi k) {va vb : Value} (hd : decode mi.2.1 pc = .ok (.dup2, 1)) (hva : va.category = 1) (hvb : vb.category = 1) (n : AW w P d mi k (pc + 1) L (va :: vb :: va :: vb :: st) h) : AW w P d mi k pc L (va :: vb :: st) h := by
  obtain ⟨p, e, s, m, args, below, meth, c, A⟩ := k
  exact fun H lo la a1 a2 a3 a4 => lv_dup2_11 K.1 K.2.1 hd hva hvb (n H lo la a1 a2 a3 a4)
theorem aw_dup2_2 (K : AOK w mi k) {va : Value} (hd : decode mi.2.1 pc = .ok (.dup2, 1)) (hva : va.category = 2) (n : AW w P d mi k (pc + 1) L (va :: va :: st) h) : AW w P d mi k pc L (va :: st) h := by
  obtain ⟨p, e, s, m, args, below, meth, c, A⟩ := k
  exact fun H lo la a1 a2 a3 a4 => lv_dup2_2 K.1 K.2.1 hd hva (n H lo la a1 a2 a3 a4)
-- branches
theorem aw_if_eq (K : AOK w mi k) {x : Int32} {off : Int} {tgt : Nat} (hd : decode mi.2.1 pc = .ok (.ifCond .eq off, 3)) (ht : (pc : Int) + off = (tgt : Int)) (kt : x = 0 → AW w P d mi k tgt L st h) (kf : ¬ x = 0 → AW w P d mi k (pc + 3) L st h) : AW w P d mi k pc L (.int x :: st) h := by
  obtain ⟨p, e, s, m, args, below, meth, c, A⟩ := k
  exact fun H lo la a1 a2 a3 a4 => lv_if_eq K.1 K.2.1 hd ht (fun q => kt q H lo la a1 a2 a3 a4) (fun q => kf q H lo la a1 a2 a3 a4)
theorem aw_icmp_eq (K : AOK w mi k) {x y : Int32} {off : Int} {tgt : Nat} (hd : decode mi.2.1 pc = .ok (.if_icmp .eq off, 3)) (ht : (pc : Int) + off = (tgt : Int)) (kt : x = y → AW w P d mi k tgt L st h) (kf : ¬ x = y → AW w P d mi k (pc + 3) L st h) : AW w P d mi k pc L (.int y :: .int x :: st) h := by
  obtain ⟨p, e, s, m, args, below, meth, c, A⟩ := k
  exact fun H lo la a1 a2 a3 a4 => lv_icmp_eq K.1 K.2.1 hd ht (fun q => kt q H lo la a1 a2 a3 a4) (fun q => kf q H lo la a1 a2 a3 a4)
theorem aw_if_ne (K : AOK w mi k) {x : Int32} {off : Int} {tgt : Nat} (hd : decode mi.2.1 pc = .ok (.ifCond .ne off, 3)) (ht : (pc : Int) + off = (tgt : Int)) (kt : ¬ x = 0 → AW w P d mi k tgt L st h) (kf : x = 0 → AW w P d mi k (pc + 3) L st h) : AW w P d mi k pc L (.int x :: st) h := by
  obtain ⟨p, e, s, m, args, below, meth, c, A⟩ := k
  exact fun H lo la a1 a2 a3 a4 => lv_if_ne K.1 K.2.1 hd ht (fun q => kt q H lo la a1 a2 a3 a4) (fun q => kf q H lo la a1 a2 a3 a4)
theorem aw_icmp_ne (K : AOK w mi k) {x y : Int32} {off : Int} {tgt : Nat} (hd : decode mi.2.1 pc = .ok (.if_icmp .ne off, 3)) (ht : (pc : Int) + off = (tgt : Int)) (kt : ¬ x = y → AW w P d mi k tgt L st h) (kf : x = y → AW w P d mi k (pc + 3) L st h) : AW w P d mi k pc L (.int y :: .int x :: st) h := by
  obtain ⟨p, e, s, m, args, below, meth, c, A⟩ := k
  exact fun H lo la a1 a2 a3 a4 => lv_icmp_ne K.1 K.2.1 hd ht (fun q => kt q H lo la a1 a2 a3 a4) (fun q => kf q H lo la a1 a2 a3 a4)
theorem aw_if_lt (K : AOK w mi k) {x : Int32} {off : Int} {tgt : Nat} (hd : decode mi.2.1 pc = .ok (.ifCond .lt off, 3)) (ht : (pc : Int) + off = (tgt : Int)) (kt : x < 0 → AW w P d mi k tgt L st h) (kf : ¬ x < 0 → AW w P d mi k (pc + 3) L st h) : AW w P d mi k pc L (.int x :: st) h := by
  obtain ⟨p, e, s, m, args, below, meth, c, A⟩ := k
  exact fun H lo la a1 a2 a3 a4 => lv_if_lt K.1 K.2.1 hd ht (fun q => kt q H lo la a1 a2 a3 a4) (fun q => kf q H lo la a1 a2 a3 a4)
theorem aw_icmp_lt (K : AOK w mi k) {x y : Int32} {off : Int} {tgt : Nat} (hd : decode mi.2.1 pc = .ok (.if_icmp .lt off, 3)) (ht : (pc : Int) + off = (tgt : Int)) (kt : x < y → AW w P d mi k tgt L st h) (kf : ¬ x < y → AW w P d mi k (pc + 3) L st h) : AW w P d mi k pc L (.int y :: .int x :: st) h := by
  obtain ⟨p, e, s, m, args, below, meth, c, A⟩ := k
  exact fun H lo la a1 a2 a3 a4 => lv_icmp_lt K.1 K.2.1 hd ht (fun q => kt q H lo la a1 a2 a3 a4) (fun q => kf q H lo la a1 a2 a3 a4)
theorem aw_if_ge (K : AOK w mi k) {x : Int32} {off : Int} {tgt : Nat} (hd : decode mi.2.1 pc = .ok (.ifCond .ge off, 3)) (ht : (pc : Int) + off = (tgt : Int)) (kt : 0 ≤ x → AW w P d mi k tgt L st h) (kf : ¬ 0 ≤ x → AW w P d mi k (pc + 3) L st h) : AW w P d mi k pc L (.int x :: st) h := by
  obtain ⟨p, e, s, m, args, below, meth, c, A⟩ := k
  exact fun H lo la a1 a2 a3 a4 => lv_if_ge K.1 K.2.1 hd ht (fun q => kt q H lo la a1 a2 a3 a4) (fun q => kf q H lo la a1 a2 a3 a4)
theorem aw_icmp_ge (K : AOK w mi k) {x y : Int32} {off : Int} {tgt : Nat} (hd : decode mi.2.1 pc = .ok (.if_icmp .ge off, 3)) (ht : (pc : Int) + off = (tgt : Int)) (kt : y ≤ x → AW w P d mi k tgt L st h) (kf : ¬ y ≤ x → AW w P d mi k (pc + 3) L st h) : AW w P d mi k pc L (.int y :: .int x :: st) h := by
  obtain ⟨p, e, s, m, args, below, meth, c, A⟩ := k
  exact fun H lo la a1 a2 a3 a4 => lv_icmp_ge K.1 K.2.1 hd ht (fun q => kt q H lo la a1 a2 a3 a4) (fun q => kf q H lo la a1 a2 a3 a4)
theorem aw_if_gt (K : AOK w mi k) {x : Int32} {off : Int} {tgt : Nat} (hd : decode mi.2.1 pc = .ok (.ifCond .gt off, 3)) (ht : (pc : Int) + off = (tgt : Int)) (kt : 0 < x → AW w P d mi k tgt L st h) (kf : ¬ 0 < x → AW w P d mi k (pc + 3) L st h) : AW w P d mi k pc L (.int x :: st) h := by
  obtain ⟨p, e, s, m, args, below, meth, c, A⟩ := k
  exact fun H lo la a1 a2 a3 a4 => lv_if_gt K.1 K.2.1 hd ht (fun q => kt q H lo la a1 a2 a3 a4) (fun q => kf q H lo la a1 a2 a3 a4)
theorem aw_icmp_gt (K : AOK w mi k) {x y : Int32} {off : Int} {tgt : Nat} (hd : decode mi.2.1 pc = .ok (.if_icmp .gt off, 3)) (ht : (pc : Int) + off = (tgt : Int)) (kt : y < x → AW w P d mi k tgt L st h) (kf : ¬ y < x → AW w P d mi k (pc + 3) L st h) : AW w P d mi k pc L (.int y :: .int x :: st) h := by
  obtain ⟨p, e, s, m, args, below, meth, c, A⟩ := k
  exact fun H lo la a1 a2 a3 a4 => lv_icmp_gt K.1 K.2.1 hd ht (fun q => kt q H lo la a1 a2 a3 a4) (fun q => kf q H lo la a1 a2 a3 a4)
theorem aw_if_le (K : AOK w mi k) {x : Int32} {off : Int} {tgt : Nat} (hd : decode mi.2.1 pc = .ok (.ifCond .le off, 3)) (ht : (pc : Int) + off = (tgt : Int)) (kt : x ≤ 0 → AW w P d mi k tgt L st h) (kf : ¬ x ≤ 0 → AW w P d mi k (pc + 3) L st h) : AW w P d mi k pc L (.int x :: st) h := by
  obtain ⟨p, e, s, m, args, below, meth, c, A⟩ := k
  exact fun H lo la a1 a2 a3 a4 => lv_if_le K.1 K.2.1 hd ht (fun q => kt q H lo la a1 a2 a3 a4) (fun q => kf q H lo la a1 a2 a3 a4)
theorem aw_icmp_le (K : AOK w mi k) {x y : Int32} {off : Int} {tgt : Nat} (hd : decode mi.2.1 pc = .ok (.if_icmp .le off, 3)) (ht : (pc : Int) + off = (tgt : Int)) (kt : x ≤ y → AW w P d mi k tgt L st h) (kf : ¬ x ≤ y → AW w P d mi k (pc + 3) L st h) : AW w P d mi k pc L (.int y :: .int x :: st) h := by
  obtain ⟨p, e, s, m, args, below, meth, c, A⟩ := k
  exact fun H lo la a1 a2 a3 a4 => lv_icmp_le K.1 K.2.1 hd ht (fun q => kt q H lo la a1 a2 a3 a4) (fun q => kf q H lo la a1 a2 a3 a4)
theorem aw_goto (K : AOK w mi k) {off : Int} {tgt : Nat} (hd : decode mi.2.1 pc = .ok (.goto off, 3)) (ht : (pc : Int) + off = (tgt : Int)) (n : AW w P d mi k tgt L st h) : AW w P d mi k pc L st h := by
  obtain ⟨p, e, s, m, args, below, meth, c, A⟩ := k
  exact fun H lo la a1 a2 a3 a4 => lv_goto K.1 K.2.1 hd ht (n H lo la a1 a2 a3 a4)
theorem aw_iload_n (K : AOK w mi k) {q : Fin 4} {i : Nat} {x : Int32} (hd : decode mi.2.1 pc = .ok (.iload_n q, 1)) (hi : (q : Nat) = i) (hl : L[i]? = some (some (.int x))) (n : AW w P d mi k (pc + 1) L (.int x :: st) h) : AW w P d mi k pc L st h := by
  obtain ⟨p, e, s, m, args, below, meth, c, A⟩ := k
  exact fun H lo la a1 a2 a3 a4 => lv_iload_n K.1 K.2.1 hd hi (a1.2.2 i _ hl) (n H lo la a1 a2 a3 a4)
theorem aw_iload (K : AOK w mi k) {i : Nat} {x : Int32} (hd : decode mi.2.1 pc = .ok (.iload i, 2)) (hl : L[i]? = some (some (.int x))) (n : AW w P d mi k (pc + 2) L (.int x :: st) h) : AW w P d mi k pc L st h := by
  obtain ⟨p, e, s, m, args, below, meth, c, A⟩ := k
  exact fun H lo la a1 a2 a3 a4 => lv_iload K.1 K.2.1 hd (a1.2.2 i _ hl) (n H lo la a1 a2 a3 a4)
theorem aw_istore_n (K : AOK w mi k) {q : Fin 4} {i : Nat} {x : Int32} (hd : decode mi.2.1 pc = .ok (.istore_n q, 1)) (hi : (q : Nat) = i) (hb : i < mi.2.2.1) (hp : ∀ (j : Nat) (o : Option Value), j + 1 = i → L[j]? = some o → aw_c1 o = true) (n : AW w P d mi k (pc + 1) (L.set i (some (.int x))) st h) : AW w P d mi k pc L (.int x :: st) h := by
  obtain ⟨p, e, s, m, args, below, meth, c, A⟩ := k
  exact fun H lo la a1 a2 a3 a4 => lv_istore_n K.1 K.2.1 hd hi (aw_lh_has a1) hb rfl (fun la' hl => n H lo la' (aw_set1 hl (fun j w hj => aw_ac_of hj) hp) a2 a3 a4)
theorem aw_istore (K : AOK w mi k) {i : Nat} {x : Int32} (hd : decode mi.2.1 pc = .ok (.istore i, 2)) (hb : i < mi.2.2.1) (hp : ∀ (j : Nat) (o : Option Value), j + 1 = i → L[j]? = some o → aw_c1 o = true) (n : AW w P d mi k (pc + 2) (L.set i (some (.int x))) st h) : AW w P d mi k pc L (.int x :: st) h := by
  obtain ⟨p, e, s, m, args, below, meth, c, A⟩ := k
  exact fun H lo la a1 a2 a3 a4 => lv_istore K.1 K.2.1 hd (aw_lh_has a1) hb rfl (fun la' hl => n H lo la' (aw_set1 hl (fun j w hj => aw_ac_of hj) hp) a2 a3 a4)
theorem aw_lload_n (K : AOK w mi k) {q : Fin 4} {i : Nat} {x : Int64} (hd : decode mi.2.1 pc = .ok (.lload_n q, 1)) (hi : (q : Nat) = i) (hl : L[i]? = some (some (.long x))) (n : AW w P d mi k (pc + 1) L (.long x :: st) h) : AW w P d mi k pc L st h := by
  obtain ⟨p, e, s, m, args, below, meth, c, A⟩ := k
  exact fun H lo la a1 a2 a3 a4 => lv_lload_n K.1 K.2.1 hd hi (a1.2.2 i _ hl) (n H lo la a1 a2 a3 a4)
theorem aw_lload (K : AOK w mi k) {i : Nat} {x : Int64} (hd : decode mi.2.1 pc = .ok (.lload i, 2)) (hl : L[i]? = some (some (.long x))) (n : AW w P d mi k (pc + 2) L (.long x :: st) h) : AW w P d mi k pc L st h := by
  obtain ⟨p, e, s, m, args, below, meth, c, A⟩ := k
  exact fun H lo la a1 a2 a3 a4 => lv_lload K.1 K.2.1 hd (a1.2.2 i _ hl) (n H lo la a1 a2 a3 a4)
theorem aw_lstore_n (K : AOK w mi k) {q : Fin 4} {i : Nat} {x : Int64} (hd : decode mi.2.1 pc = .ok (.lstore_n q, 1)) (hi : (q : Nat) = i) (hb : i + 1 < mi.2.2.1) (hp : ∀ (j : Nat) (o : Option Value), j + 1 = i → L[j]? = some o → aw_c1 o = true) (n : AW w P d mi k (pc + 1) ((L.set i (some (.long x))).set (i + 1) none) st h) : AW w P d mi k pc L (.long x :: st) h := by
  obtain ⟨p, e, s, m, args, below, meth, c, A⟩ := k
  exact fun H lo la a1 a2 a3 a4 => lv_lstore_n K.1 K.2.1 hd hi (aw_lh_has a1) hb rfl (fun la' hl => n H lo la' (aw_set2 hl (fun j w hj => aw_ac_of hj) hp) a2 a3 a4)
theorem aw_lstore (K : AOK w mi k) {i : Nat} {x : Int64} (hd : decode mi.2.1 pc = .ok (.lstore i, 2)) (hb : i + 1 < mi.2.2.1) (hp : ∀ (j : Nat) (o : Option Value), j + 1 = i → L[j]? = some o → aw_c1 o = true) (n : AW w P d mi k (pc + 2) ((L.set i (some (.long x))).set (i + 1) none) st h) : AW w P d mi k pc L (.long x :: st) h := by
  obtain ⟨p, e, s, m, args, below, meth, c, A⟩ := k
  exact fun H lo la a1 a2 a3 a4 => lv_lstore K.1 K.2.1 hd (aw_lh_has a1) hb rfl (fun la' hl => n H lo la' (aw_set2 hl (fun j w hj => aw_ac_of hj) hp) a2 a3 a4)
theorem aw_aload_n (K : AOK w mi k) {q : Fin 4} {i : Nat} {x : Nat} (hd : decode mi.2.1 pc = .ok (.aload_n q, 1)) (hi : (q : Nat) = i) (hl : L[i]? = some (some (.ref x))) (n : AW w P d mi k (pc + 1) L (.ref x :: st) h) : AW w P d mi k pc L st h := by
  obtain ⟨p, e, s, m, args, below, meth, c, A⟩ := k
  exact fun H lo la a1 a2 a3 a4 => lv_aload_n K.1 K.2.1 hd hi (a1.2.2 i _ hl) (n H lo la a1 a2 a3 a4)
theorem aw_aload (K : AOK w mi k) {i : Nat} {x : Nat} (hd : decode mi.2.1 pc = .ok (.aload i, 2)) (hl : L[i]? = some (some (.ref x))) (n : AW w P d mi k (pc + 2) L (.ref x :: st) h) : AW w P d mi k pc L st h := by
  obtain ⟨p, e, s, m, args, below, meth, c, A⟩ := k
  exact fun H lo la a1 a2 a3 a4 => lv_aload K.1 K.2.1 hd (a1.2.2 i _ hl) (n H lo la a1 a2 a3 a4)
theorem aw_astore_n (K : AOK w mi k) {q : Fin 4} {i : Nat} {x : Nat} (hd : decode mi.2.1 pc = .ok (.astore_n q, 1)) (hi : (q : Nat) = i) (hb : i < mi.2.2.1) (hp : ∀ (j : Nat) (o : Option Value), j + 1 = i → L[j]? = some o → aw_c1 o = true) (n : AW w P d mi k (pc + 1) (L.set i (some (.ref x))) st h) : AW w P d mi k pc L (.ref x :: st) h := by
  obtain ⟨p, e, s, m, args, below, meth, c, A⟩ := k
  exact fun H lo la a1 a2 a3 a4 => lv_astore_n K.1 K.2.1 hd hi (aw_lh_has a1) hb rfl (fun la' hl => n H lo la' (aw_set1 hl (fun j w hj => aw_ac_of hj) hp) a2 a3 a4)
theorem aw_astore (K : AOK w mi k) {i : Nat} {x : Nat} (hd : decode mi.2.1 pc = .ok (.astore i, 2)) (hb : i < mi.2.2.1) (hp : ∀ (j : Nat) (o : Option Value), j + 1 = i → L[j]? = some o → aw_c1 o = true) (n : AW w P d mi k (pc + 2) (L.set i (some (.ref x))) st h) : AW w P d mi k pc L (.ref x :: st) h := by
  obtain ⟨p, e, s, m, args, below, meth, c, A⟩ := k
  exact fun H lo la a1 a2 a3 a4 => lv_astore K.1 K.2.1 hd (aw_lh_has a1) hb rfl (fun la' hl => n H lo la' (aw_set1 hl (fun j w hj => aw_ac_of hj) hp) a2 a3 a4)
theorem aw_iinc (K : AOK w mi k) {i : Nat} {n0 : Int} {x v : Int32} (hd : decode mi.2.1 pc = .ok (.iinc i n0, 3)) (hl : L[i]? = some (some (.int x))) (hv : x + Int32.ofInt n0 = v) (hb : i < mi.2.2.1) (hp : ∀ (j : Nat) (o : Option Value), j + 1 = i → L[j]? = some o → aw_c1 o = true) (n : AW w P d mi k (pc + 3) (L.set i (some (.int v))) st h) : AW w P d mi k pc L st h := by
  obtain ⟨p, e, s, m, args, below, meth, c, A⟩ := k
  intro H lo la a1 a2 a3 a4
  have hh : lv_has la mi.2.2.1 ((i, .int x) :: aw_ac 0 L) := by
    refine ⟨a1.1, a1.2.1, fun q hq => ?_⟩
    rcases List.mem_cons.mp hq with rfl | hq
    · exact a1.2.2 i _ hl
    · exact (aw_lh_has a1).2.2 q hq
  exact lv_iinc K.1 K.2.1 hd hh (k := 0) rfl hv hb rfl (fun la' hl => n H lo la' (aw_set1 hl (fun j w hj => List.mem_cons_of_mem _ (aw_ac_of hj)) hp) a2 a3 a4)
/-- of a local no more is said -/
theorem aw_forget (n : ∀ L', (∀ (i : Nat) (v : Value), L'[i]? = some (some v) → L[i]? = some (some v)) → AW w P d mi k pc L' st h) {L' : List (Option Value)} (hL : ∀ (i : Nat) (v : Value), L'[i]? = some (some v) → L[i]? = some (some v)) : AW w P d mi k pc L st h := by
  have n := n L' hL
  obtain ⟨p, e, s, m, args, below, meth, c, A⟩ := k
  exact fun H lo la a1 a2 a3 a4 => n H lo la ⟨a1.1, a1.2.1, fun i v hv => a1.2.2 i v (hL i v hv)⟩ a2 a3 a4
def aw_less : List (Option Value) → List (Option Value) → Prop
  | [], _ => True
  | none :: r, _ :: r2 => aw_less r r2
  | some v :: r, o :: r2 => o = some v ∧ aw_less r r2
  | none :: r, [] => aw_less r []
  | some _ :: _, [] => False
theorem aw_less_at : ∀ (L' L : List (Option Value)), aw_less L' L → ∀ (i : Nat) (v : Value), L'[i]? = some (some v) → L[i]? = some (some v)
  | [], _, _, i, v, h => by simp at h
  | none :: r, _ :: r2, hl, i, v, h => by
    cases i with
    | zero => simp at h
    | succ i => simpa using aw_less_at r r2 hl i v (by simpa using h)
  | some a :: r, o :: r2, hl, i, v, h => by
    cases i with
    | zero => simp at h; simp [hl.1, h]
    | succ i => simpa using aw_less_at r r2 hl.2 i v (by simpa using h)
  | none :: r, [], hl, i, v, h => by
    cases i with
    | zero => simp at h
    | succ i => have := aw_less_at r [] hl i v (by simpa using h); simp at this
theorem aw_sub (L' : List (Option Value)) (hl : aw_less L' L) (n : AW w P d mi k pc L' st h) : AW w P d mi k pc L st h := by
  obtain ⟨p, e, s, m, args, below, meth, c, A⟩ := k
  exact fun H lo la a1 a2 a3 a4 => n H lo la ⟨a1.1, a1.2.1, fun i v hv => a1.2.2 i v (aw_less_at _ _ hl i v hv)⟩ a2 a3 a4
/-! returns -/
theorem aw_iret (K : AOK w mi k) {x : Int32} (hr : mi.2.2.2 = some .int) (hd : decode mi.2.1 pc = .ok (.ireturn, 1)) (hp : P (some (.int x)) h) : AW w P d mi k pc L [.int x] h := by
  obtain ⟨p, e, s, m, args, below, meth, c, A⟩ := k
  exact fun H lo la a1 a2 a3 a4 => W.iret K.1 K.2.1 (K.2.2.2.2.2.1.trans hr) (fun t ht _ => ⟨⟨_, h, rfl, hp, by rw [ht]; exact a2⟩, a4.F ht⟩) a4.2.2 hd K.2.2.2.2.2.2.1
theorem aw_zret (K : AOK w mi k) {x : Int32} (hr : mi.2.2.2 = some .boolean) (hd : decode mi.2.1 pc = .ok (.ireturn, 1)) (hn : narrow .boolean (.int x) = .int x) (hp : P (some (.int x)) h) : AW w P d mi k pc L [.int x] h := by
  obtain ⟨p, e, s, m, args, below, meth, c, A⟩ := k
  exact fun H lo la a1 a2 a3 a4 => W.zret K.1 K.2.1 (K.2.2.2.2.2.1.trans hr) hn (fun t ht _ => ⟨⟨_, h, rfl, hp, by rw [ht]; exact a2⟩, a4.F ht⟩) a4.2.2 hd K.2.2.2.2.2.2.1
theorem aw_lret (K : AOK w mi k) {x : Int64} (hr : mi.2.2.2 = some .long) (hd : decode mi.2.1 pc = .ok (.lreturn, 1)) (hp : P (some (.long x)) h) : AW w P d mi k pc L [.long x] h := by
  obtain ⟨p, e, s, m, args, below, meth, c, A⟩ := k
  exact fun H lo la a1 a2 a3 a4 => W.lret K.1 K.2.1 (K.2.2.2.2.2.1.trans hr) (fun t ht _ => ⟨⟨_, h, rfl, hp, by rw [ht]; exact a2⟩, a4.F ht⟩) a4.2.2 hd K.2.2.2.2.2.2.1
theorem aw_vret (K : AOK w mi k) (hr : mi.2.2.2 = none) (hd : decode mi.2.1 pc = .ok (.return_, 1)) (hp : P none h) : AW w P d mi k pc L [] h := by
  obtain ⟨p, e, s, m, args, below, meth, c, A⟩ := k
  exact fun H lo la a1 a2 a3 a4 => W.vret K.1 K.2.1 (K.2.2.2.2.2.1.trans hr) (fun t ht _ => ⟨⟨_, h, rfl, hp, by rw [ht]; exact a2⟩, a4.F ht⟩) a4.2.2 hd K.2.2.2.2.2.2.1
/-! fields -/
theorem aw_get (K : AOK w mi k) {index ci j i f n0 : Nat} {fs : List Nat} (fl : FL mi.1.cls index ci j) (hd : decode mi.2.1 pc = .ok (.getfield index, 3)) (hi : w.2.2.1[i]? = some (ci + 3, n0, fs)) (hf : fs[j]? = some f) (n : AW w P d mi k (pc + 3) L (aw_fv w.2.1 h i j f :: st) h) : AW w P d mi k pc L (.ref (w.2.1.2.1 i) :: st) h := by
  obtain ⟨p, e, s, m, args, below, meth, c, A⟩ := k
  obtain ⟨C, T, N, h1, h2, h3, h4, h5⟩ := fl
  obtain ⟨k1, k2, k3, k4, k5, k6, k7, k8, k9, k10, k11⟩ := K
  intro H lo la a1 a2 a3 a4
  refine va_get k1 k2 (Ts := aw_ws mi) k5 (fun w hw => List.mem_cons_of_mem _ (h4 w hw)) k4 k8 a2 i (aw_cz_at hi) h1 j h2 (k5 _ (List.mem_cons_of_mem _ h3)) (fun x hx => by rw [h5] at hx; exact hx) (aw_fs_at hf) hd (n H lo la a1 a2 a3 a4)
theorem aw_getI (K : AOK w mi k) {index ci j i n0 : Nat} {fs : List Nat} (fl : FL mi.1.cls index ci j) (hd : decode mi.2.1 pc = .ok (.getfield index, 3)) (hi : w.2.2.1[i]? = some (ci + 3, n0, fs)) (hf : fs[j]? = some 0) (n : AW w P d mi k (pc + 3) L (.int (h.1 i j) :: st) h) : AW w P d mi k pc L (.ref (w.2.1.2.1 i) :: st) h := aw_get K fl hd hi hf n
theorem aw_getL (K : AOK w mi k) {index ci j i n0 : Nat} {fs : List Nat} (fl : FL mi.1.cls index ci j) (hd : decode mi.2.1 pc = .ok (.getfield index, 3)) (hi : w.2.2.1[i]? = some (ci + 3, n0, fs)) (hf : fs[j]? = some 1) (n : AW w P d mi k (pc + 3) L (.long (h.2 i j) :: st) h) : AW w P d mi k pc L (.ref (w.2.1.2.1 i) :: st) h := aw_get K fl hd hi hf n
theorem aw_getR (K : AOK w mi k) {index ci j i n0 r : Nat} {fs : List Nat} (fl : FL mi.1.cls index ci j) (hd : decode mi.2.1 pc = .ok (.getfield index, 3)) (hi : w.2.2.1[i]? = some (ci + 3, n0, fs)) (hf : fs[j]? = some (r + 2)) (n : AW w P d mi k (pc + 3) L (.ref (w.2.1.2.1 r) :: st) h) : AW w P d mi k pc L (.ref (w.2.1.2.1 i) :: st) h := aw_get K fl hd hi hf n
theorem aw_putI (K : AOK w mi k) {index ci j i n0 : Nat} {fs : List Nat} {v : Int32} (fl : FL mi.1.cls index ci j) (fp : FP_ ci j .int) (hd : decode mi.2.1 pc = .ok (.putfield index, 3)) (hi : w.2.2.1[i]? = some (ci + 3, n0, fs)) (hf : fs[j]? = some 0) (n : AW w P d mi k (pc + 3) L st (setI h i j v)) : AW w P d mi k pc L (.int v :: .ref (w.2.1.2.1 i) :: st) h := by
  obtain ⟨p, e, s, m, args, below, meth, c, A⟩ := k
  obtain ⟨C, T, N, h1, h2, h3, h4, h5⟩ := fl
  obtain ⟨C', T', N', tys, g1, g2, g3, g4, g5⟩ := fp
  cases h1.symm.trans g1
  obtain ⟨k1, k2, k3, k4, k5, k6, k7, k8, k9, k10, k11⟩ := K
  intro H lo la a1 a2 a3 a4
  refine va_put k1 k2 (Ts := aw_ws mi) k5 (fun w hw => List.mem_cons_of_mem _ (h4 w hw)) tys g2 g3 k4 k8 a2 a3 a4 i (aw_cz_at hi) h1 j h2 (k5 _ (List.mem_cons_of_mem _ h3)) (fun x hx => by rw [h5] at hx; exact hx) g4 (ty := .int) g5 rfl rfl (by have := aw_fs_at (g := w.2.1) (h := h) (i := i) hf; exact (List.getElem?_eq_some_iff.mp this).1) hd (fun H1 lo1 b2 b3 b4 => ?_)
  have e1 : (aw_w w h).set i (w.2.1.2.1 i, .inr (ci, (aw_fs w.2.1 h i 0 fs).set j (.int v))) = aw_w w (setI h i j v) := by
    show _ = aw_cz _ _ _ _
    rw [aw_cz_set hi (fun a ha => setI_o (h := h) (j := j) (v := v) a ha)]
    show _ = (aw_cz w.2.1 h 0 w.2.2.1).set i (w.2.1.2.1 i, .inr (ci, aw_fs w.2.1 (setI h i j v) i 0 fs))
    rw [aw_fs_setI hf]
  rw [e1] at b2 b3
  exact n H1 lo1 la a1 b2 b3 b4
theorem aw_putL (K : AOK w mi k) {index ci j i n0 : Nat} {fs : List Nat} {v : Int64} (fl : FL mi.1.cls index ci j) (fp : FP_ ci j .long) (hd : decode mi.2.1 pc = .ok (.putfield index, 3)) (hi : w.2.2.1[i]? = some (ci + 3, n0, fs)) (hf : fs[j]? = some 1) (n : AW w P d mi k (pc + 3) L st (setL h i j v)) : AW w P d mi k pc L (.long v :: .ref (w.2.1.2.1 i) :: st) h := by
  obtain ⟨p, e, s, m, args, below, meth, c, A⟩ := k
  obtain ⟨C, T, N, h1, h2, h3, h4, h5⟩ := fl
  obtain ⟨C', T', N', tys, g1, g2, g3, g4, g5⟩ := fp
  cases h1.symm.trans g1
  obtain ⟨k1, k2, k3, k4, k5, k6, k7, k8, k9, k10, k11⟩ := K
  intro H lo la a1 a2 a3 a4
  refine va_put k1 k2 (Ts := aw_ws mi) k5 (fun w hw => List.mem_cons_of_mem _ (h4 w hw)) tys g2 g3 k4 k8 a2 a3 a4 i (aw_cz_at hi) h1 j h2 (k5 _ (List.mem_cons_of_mem _ h3)) (fun x hx => by rw [h5] at hx; exact hx) g4 (ty := .long) g5 rfl rfl (by have := aw_fs_at (g := w.2.1) (h := h) (i := i) hf; exact (List.getElem?_eq_some_iff.mp this).1) hd (fun H1 lo1 b2 b3 b4 => ?_)
  have e1 : (aw_w w h).set i (w.2.1.2.1 i, .inr (ci, (aw_fs w.2.1 h i 0 fs).set j (.long v))) = aw_w w (setL h i j v) := by
    show _ = aw_cz _ _ _ _
    rw [aw_cz_set hi (fun a ha => setL_o (h := h) (j := j) (v := v) a ha)]
    show _ = (aw_cz w.2.1 h 0 w.2.2.1).set i (w.2.1.2.1 i, .inr (ci, aw_fs w.2.1 (setL h i j v) i 0 fs))
    rw [aw_fs_setL hf]
  rw [e1] at b2 b3
  exact n H1 lo1 la a1 b2 b3 b4
/-! rows -/
theorem aw_iald (K : AOK w mi k) {i n0 : Nat} {fs : List Nat} {x : Int32} (hd : decode mi.2.1 pc = .ok (.iaload, 1)) (hi : w.2.2.1[i]? = some (0, n0, fs)) (hx : vp_in x n0) (n : AW w P d mi k (pc + 1) L (.int (h.1 i x.toNatClampNeg) :: st) h) : AW w P d mi k pc L (.int x :: .ref (w.2.1.2.1 i) :: st) h := by
  obtain ⟨p, e, s, m, args, below, meth, c, A⟩ := k
  obtain ⟨k1, k2, k3, k4, k5, k6, k7, k8, k9, k10, k11⟩ := K
  exact fun H lo la a1 a2 a3 a4 => va_iald k1 k2 k8 a2 i 0 (aw_cz_at hi) rfl hx hd (n H lo la a1 a2 a3 a4)
theorem aw_zald (K : AOK w mi k) {i n0 : Nat} {fs : List Nat} {x : Int32} (hd : decode mi.2.1 pc = .ok (.baload, 1)) (hi : w.2.2.1[i]? = some (1, n0, fs)) (hx : vp_in x n0) (n : AW w P d mi k (pc + 1) L (.int (h.1 i x.toNatClampNeg) :: st) h) : AW w P d mi k pc L (.int x :: .ref (w.2.1.2.1 i) :: st) h := by
  obtain ⟨p, e, s, m, args, below, meth, c, A⟩ := k
  obtain ⟨k1, k2, k3, k4, k5, k6, k7, k8, k9, k10, k11⟩ := K
  exact fun H lo la a1 a2 a3 a4 => va_zald k1 k2 k8 a2 i 1 (aw_cz_at hi) rfl hx hd (n H lo la a1 a2 a3 a4)
theorem aw_aald (K : AOK w mi k) {i n0 r : Nat} {fs : List Nat} {x : Int32} (hd : decode mi.2.1 pc = .ok (.aaload, 1)) (hi : w.2.2.1[i]? = some (2, n0, fs)) (hx : vp_in x n0) (hr : fs[x.toNatClampNeg]? = some r) (n : AW w P d mi k (pc + 1) L (.ref (w.2.1.2.1 r) :: st) h) : AW w P d mi k pc L (.int x :: .ref (w.2.1.2.1 i) :: st) h := by
  obtain ⟨p, e, s, m, args, below, meth, c, A⟩ := k
  obtain ⟨k1, k2, k3, k4, k5, k6, k7, k8, k9, k10, k11⟩ := K
  intro H lo la a1 a2 a3 a4
  refine va_aldq k1 k2 k8 a2 i 2 (aw_cz_at hi) rfl hx hd ?_
  rw [hr]
  exact n H lo la a1 a2 a3 a4
theorem aw_rowset {h : HS} {i : Nat} {f : Nat → Int32} {n0 : Nat} {fs : List Nat} (hi : w.2.2.1[i]? = some (0, n0, fs)) : (aw_w w h).set i (w.2.1.2.1 i, .inl (w.2.1.2.2.1, n0, .inl f)) = aw_w w (setR h i f) := by
  show _ = aw_cz _ _ _ _
  rw [aw_cz_set hi (fun a ha => setR_o (h := h) (f := f) a ha)]
  simp [aw_ce, setR]
theorem aw_rowsetZ {h : HS} {i : Nat} {f : Nat → Int32} {n0 : Nat} {fs : List Nat} (hi : w.2.2.1[i]? = some (1, n0, fs)) : (aw_w w h).set i (w.2.1.2.1 i, .inl (w.2.1.2.2.2.1, n0, .inl f)) = aw_w w (setR h i f) := by
  show _ = aw_cz _ _ _ _
  rw [aw_cz_set hi (fun a ha => setR_o (h := h) (f := f) a ha)]
  simp [aw_ce, setR]
theorem aw_iast (K : AOK w mi k) {i n0 : Nat} {fs : List Nat} {x v : Int32} (hd : decode mi.2.1 pc = .ok (.iastore, 1)) (hi : w.2.2.1[i]? = some (0, n0, fs)) (hx : vp_in x n0) (n : AW w P d mi k (pc + 1) L st (setI h i x.toNatClampNeg v)) : AW w P d mi k pc L (.int v :: .int x :: .ref (w.2.1.2.1 i) :: st) h := by
  obtain ⟨p, e, s, m, args, below, meth, c, A⟩ := k
  obtain ⟨k1, k2, k3, k4, k5, k6, k7, k8, k9, k10, k11⟩ := K
  intro H lo la a1 a2 a3 a4
  refine va_iast k1 k2 k8 a2 a3 a4 i 0 (aw_cz_at hi) rfl hx hd (fun H1 lo1 b2 b3 b4 => ?_)
  rw [aw_rowset hi] at b2 b3
  exact n H1 lo1 la a1 b2 b3 b4
theorem aw_zast (K : AOK w mi k) {i n0 : Nat} {fs : List Nat} {x v : Int32} (hd : decode mi.2.1 pc = .ok (.bastore, 1)) (hi : w.2.2.1[i]? = some (1, n0, fs)) (hx : vp_in x n0) (n : AW w P d mi k (pc + 1) L st (setI h i x.toNatClampNeg (vp_nar .boolean v))) : AW w P d mi k pc L (.int v :: .int x :: .ref (w.2.1.2.1 i) :: st) h := by
  obtain ⟨p, e, s, m, args, below, meth, c, A⟩ := k
  obtain ⟨k1, k2, k3, k4, k5, k6, k7, k8, k9, k10, k11⟩ := K
  intro H lo la a1 a2 a3 a4
  refine va_zast k1 k2 k8 a2 a3 a4 i 1 (aw_cz_at hi) rfl hx hd (fun H1 lo1 b2 b3 b4 => ?_)
  rw [aw_rowsetZ hi] at b2 b3
  exact n H1 lo1 la a1 b2 b3 b4
theorem aw_alen (K : AOK w mi k) {i n0 : Nat} {fs : List Nat} {v : Int32} (hd : decode mi.2.1 pc = .ok (.arraylength, 1)) (hi : w.2.2.1[i]? = some (0, n0, fs)) (hv : Int32.ofNat n0 = v) (n : AW w P d mi k (pc + 1) L (.int v :: st) h) : AW w P d mi k pc L (.ref (w.2.1.2.1 i) :: st) h := by
  obtain ⟨p, e, s, m, args, below, meth, c, A⟩ := k
  obtain ⟨k1, k2, k3, k4, k5, k6, k7, k8, k9, k10, k11⟩ := K
  exact fun H lo la a1 a2 a3 a4 => va_alen k1 k2 k8 a2 i 0 (aw_cz_at hi) rfl hv hd (n H lo la a1 a2 a3 a4)

end AWR

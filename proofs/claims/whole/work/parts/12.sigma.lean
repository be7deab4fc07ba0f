/-! ===== the system's cells, once made: their shapes stand still, their numbers are σ ===== -/
abbrev xSh : Type := (Nat × Nat × Option (List Nat)) ⊕ (Nat × List (Option Nat))
abbrev Sg : Type := Nat → Nat → Int32
def xShp : List xSh := [.inr (8, [some 1, some 3, some 9, some 15, some 18, some 21, some 47, some 56, some 59, some 62]),
  .inr (7, [some 2, none, none, none, none]),
  .inl (1, 160, none),
  .inr (3, [some 4, some 5, some 6, some 7, some 8, none, none, none]),
  .inl (0, 8, none),
  .inl (0, 8, none),
  .inl (0, 8, none),
  .inl (0, 8, none),
  .inl (0, 8, none),
  .inr (3, [some 10, some 11, some 12, some 13, some 14, none, none, none]),
  .inl (0, 8, none),
  .inl (0, 8, none),
  .inl (0, 8, none),
  .inl (0, 8, none),
  .inl (0, 8, none),
  .inr (1, [some 16, some 17, none, none]),
  .inl (0, 8, none),
  .inl (0, 8, none),
  .inr (1, [some 19, some 20, none, none]),
  .inl (0, 8, none),
  .inl (0, 8, none),
  .inr (2, [some 22, none, none]),
  .inl (3, 8, some [23, 26, 29, 32, 35, 38, 41, 44]),
  .inr (1, [some 24, some 25, none, none]),
  .inl (0, 8, none),
  .inl (0, 8, none),
  .inr (1, [some 27, some 28, none, none]),
  .inl (0, 8, none),
  .inl (0, 8, none),
  .inr (1, [some 30, some 31, none, none]),
  .inl (0, 8, none),
  .inl (0, 8, none),
  .inr (1, [some 33, some 34, none, none]),
  .inl (0, 8, none),
  .inl (0, 8, none),
  .inr (1, [some 36, some 37, none, none]),
  .inl (0, 8, none),
  .inl (0, 8, none),
  .inr (1, [some 39, some 40, none, none]),
  .inl (0, 8, none),
  .inl (0, 8, none),
  .inr (1, [some 42, some 43, none, none]),
  .inl (0, 8, none),
  .inl (0, 8, none),
  .inr (1, [some 45, some 46, none, none]),
  .inl (0, 8, none),
  .inl (0, 8, none),
  .inr (5, [some 48, some 49]),
  .inl (3, 2, some [50, 53]),
  .inl (2, 2, none),
  .inr (1, [some 51, some 52, none, none]),
  .inl (0, 8, none),
  .inl (0, 8, none),
  .inr (1, [some 54, some 55, none, none]),
  .inl (0, 8, none),
  .inl (0, 8, none),
  .inr (6, [some 57, some 58, none]),
  .inl (0, 6, none),
  .inl (0, 6, none),
  .inr (0, [some 60, some 61, none]),
  .inl (0, 8, none),
  .inl (0, 8, none),
  .inr (4, [some 63, some 64, some 65, none, none]),
  .inl (3, 5, some [66, 69, 72, 75, 78]),
  .inl (0, 4, none),
  .inl (0, 4, none),
  .inr (1, [some 67, some 68, none, none]),
  .inl (0, 8, none),
  .inl (0, 8, none),
  .inr (1, [some 70, some 71, none, none]),
  .inl (0, 8, none),
  .inl (0, 8, none),
  .inr (1, [some 73, some 74, none, none]),
  .inl (0, 8, none),
  .inl (0, 8, none),
  .inr (1, [some 76, some 77, none, none]),
  .inl (0, 8, none),
  .inl (0, 8, none),
  .inr (1, [some 79, some 80, none, none]),
  .inl (0, 8, none),
  .inl (0, 8, none),
  .inr (9, [some 82, none, some 83, some 84, some 85, some 86, none, some 87, some 88, some 89, none, none, none, none, none, some 90, none, none, none, some 91]),
  .inl (0, 160, none),
  .inl (0, 43, none),
  .inl (0, 43, none),
  .inl (0, 18, none),
  .inl (0, 144, none),
  .inl (0, 36, none),
  .inl (2, 2, none),
  .inl (0, 6, none),
  .inl (0, 8, none),
  .inl (0, 18, none)]
def xfs (f : Nat → Int32) : Nat → List (Option Nat) → List Value
  | _, [] => []
  | k, some r :: l => .ref r :: xfs f (k + 1) l
  | k, none :: l => .int (f k) :: xfs f (k + 1) l
def xcell (s : Option xSh) (f : Nat → Int32) : xA := match s with
  | some (.inl (t, n, none)) => .inl (t, n, .inl f)
  | some (.inl (_, n, some l)) => .inl (3, n, .inr (.inr (.inr (.inr (fun j => l[j]?)))))
  | some (.inr (c, fs)) => .inr (c, xfs f 0 fs)
  | none => .inl (0, 0, .inl f)
def xH (σ : Sg) (i : Nat) : xA := xcell xShp[i]? (σ i)
abbrev xB0 : xB := (92, 1178)
def xMs (σ : Sg) : xM := (xH σ, 92, 1178)
def sw (σ : Sg) (a : Nat) (f : Nat → Int32) : Sg := fun b => if b = a then f else σ b
def sg (σ : Sg) (a k : Nat) (x : Int32) : Sg := sw σ a (upd (σ a) k x)
theorem sw_s (σ : Sg) (a : Nat) (f : Nat → Int32) : sw σ a f a = f := if_pos rfl
theorem sw_n (σ : Sg) {a b : Nat} (f : Nat → Int32) (h : b ≠ a) : sw σ a f b = σ b := if_neg h
theorem sg_s (σ : Sg) (a k : Nat) (x : Int32) : sg σ a k x a k = x := by
  unfold sg
  rw [sw_s]
  exact if_pos rfl
theorem sg_k (σ : Sg) (a : Nat) {k j : Nat} (x : Int32) (h : j ≠ k) : sg σ a k x a j = σ a j := by
  unfold sg
  rw [sw_s]
  exact if_neg h
theorem sg_n (σ : Sg) {a b : Nat} (k : Nat) (x : Int32) (h : b ≠ a) : sg σ a k x b = σ b := sw_n _ _ h
theorem xu_sw {σ : Sg} {a : Nat} {f : Nat → Int32} {c : xA} (h : c = xcell xShp[a]? f) : (xu (xMs σ).1 a c, (xMs σ).2) = xMs (sw σ a f) := by
  subst h
  unfold xMs
  refine Prod.ext ?_ rfl
  funext i
  show xu (xH σ) a _ i = xH (sw σ a f) i
  unfold xu xH sw
  by_cases e : i = a
  · subst e
    rw [if_pos rfl, if_pos rfl]
  · rw [if_neg e, if_neg e]
theorem xfs_set {f : Nat → Int32} {x : Int32} : ∀ (l : List (Option Nat)) (i k : Nat), l[k]? = some none → (xfs f i l).set k (.int x) = xfs (upd f (i + k) x) i l := by
  have same : ∀ (l : List (Option Nat)) (i j : Nat), j < i → xfs (upd f j x) i l = xfs f i l := by
    intro l
    induction l with
    | nil => intro i j _; rfl
    | cons a l ih =>
      intro i j hj
      cases a with
      | none =>
        show Value.int (upd f j x i) :: xfs (upd f j x) (i + 1) l = Value.int (f i) :: xfs f (i + 1) l
        rw [ih (i + 1) j (by omega), show upd f j x i = f i from if_neg (by omega)]
      | some r =>
        show Value.ref r :: xfs (upd f j x) (i + 1) l = Value.ref r :: xfs f (i + 1) l
        rw [ih (i + 1) j (by omega)]
  intro l
  induction l with
  | nil => intro i k h; cases h
  | cons a l ih =>
    intro i k h
    cases k with
    | zero =>
      cases h
      show Value.int x :: xfs f (i + 1) l = Value.int (upd f (i + 0) x i) :: xfs (upd f (i + 0) x) (i + 1) l
      rw [same l (i + 1) (i + 0) (by omega), show upd f (i + 0) x i = x from if_pos (by omega)]
    | succ k =>
      have h2 := ih (i + 1) k h
      cases a with
      | none =>
        show Value.int (f i) :: (xfs f (i + 1) l).set k (.int x) = Value.int (upd f (i + (k + 1)) x i) :: xfs (upd f (i + (k + 1)) x) (i + 1) l
        rw [h2, show upd f (i + (k + 1)) x i = f i from if_neg (by omega), show i + 1 + k = i + (k + 1) by omega]
      | some r =>
        show Value.ref r :: (xfs f (i + 1) l).set k (.int x) = Value.ref r :: xfs (upd f (i + (k + 1)) x) (i + 1) l
        rw [h2, show i + 1 + k = i + (k + 1) by omega]
theorem xfs_int {f : Nat → Int32} : ∀ (l : List (Option Nat)) (i k : Nat), l[k]? = some none → (xfs f i l)[k]? = some (.int (f (i + k))) := by
  intro l
  induction l with
  | nil => intro i k h; cases h
  | cons a l ih =>
    intro i k h
    cases k with
    | zero => cases h; rfl
    | succ k =>
      have h2 := ih (i + 1) k h
      rw [show i + 1 + k = i + (k + 1) by omega] at h2
      cases a <;> exact h2
theorem xfs_ref {f : Nat → Int32} {r : Nat} : ∀ (l : List (Option Nat)) (i k : Nat), l[k]? = some (some r) → (xfs f i l)[k]? = some (.ref r) := by
  intro l
  induction l with
  | nil => intro i k h; cases h
  | cons a l ih =>
    intro i k h
    cases k with
    | zero => cases h; rfl
    | succ k =>
      have h2 := ih (i + 1) k h
      cases a <;> exact h2
theorem xShp_lt {a : Nat} {c : xSh} (h : xShp[a]? = some c) : a < 92 := (List.getElem?_eq_some_iff.mp h).1
theorem xH_o {σ : Sg} {a ci : Nat} {fs : List (Option Nat)} (h : xShp[a]? = some (.inr (ci, fs))) : (xMs σ).1 a = .inr (ci, xfs (σ a) 0 fs) := by
  show xcell xShp[a]? (σ a) = _
  rw [h]
  rfl
theorem xH_a {σ : Sg} {a t n : Nat} (h : xShp[a]? = some (.inl (t, n, none))) : (xMs σ).1 a = .inl (t, n, .inl (σ a)) := by
  show xcell xShp[a]? (σ a) = _
  rw [h]
  rfl
theorem xH_q {σ : Sg} {a t n : Nat} {l : List Nat} (h : xShp[a]? = some (.inl (t, n, some l))) : (xMs σ).1 a = .inl (3, n, .inr (.inr (.inr (.inr (fun j => l[j]?))))) := by
  show xcell xShp[a]? (σ a) = _
  rw [h]
  rfl
def xQ (P : Option Value → Sg → Prop) : Option Value → xM → Prop := fun v M => ∃ σ, M = xMs σ ∧ P v σ
def Cm (d : Nat) (Y : xY) (As : List Value) (σ : Sg) (P : Option Value → Sg → Prop) : Prop := ExM d Y As (xMs σ) xB0 (xQ P)
theorem Cm_of {d : Nat} {Y : xY} {As : List Value} {σ : Sg} {P : Option Value → Sg → Prop} (hy : plainName Y.1.cls = true) (hlen : (xargs As).length ≤ Y.2.2.1) (k : Ex (Y, d, xB0, none) 0 (xpad Y.2.2.1 As) [] (xMs σ) (xQ P)) : Cm d Y As σ P :=
  ExM_of hy hlen (by show 92 ≤ _; omega) (fun v M h => by obtain ⟨σ', rfl, -⟩ := h; exact ⟨Nat.le_refl _, Nat.le_refl _⟩) k
def cpN (N : Nat) (f g : Nat → Int32) : Nat → Int32 := fun k => if k < N then f k else g k
theorem va_cpN (N : Nat) (f g : Nat → Int32) : va_cpy f g 0 0 N = cpN N f g := by
  funext k
  unfold va_cpy cpN
  by_cases h : k < N
  · rw [if_pos h, if_pos ⟨Nat.zero_le _, by omega⟩]
    congr 1
    omega
  · rw [if_neg h, if_neg (fun q => h (by omega))]
section XG
variable {E : xE} {pc : Nat} {L S S0 : List Value} {σ : Sg} {Q : Option Value → xM → Prop} {P P' : Option Value → Sg → Prop}
theorem s_geti {a ci k index N : Nat} {fs : List (Option Nat)} {C : String} {T : u_T} (hd : decode E.1.2.1 pc = .ok (.getfield index, 3)) (hlink : Cond.fieldLink E.1.1.cls index (T k).1 (T k).2.1 (T k).2.2.1 ∈ xT) (hin : ∀ w ∈ u_ws C T N, w ∈ xT) (hc : vwCl[ci]? = some (C, T, N)) (hk : k < N) (hs : xShp[a]? = some (.inr (ci, fs))) (hf : fs[k]? = some none) (kk : Ex E (pc + 3) L (.int (σ a k) :: S) (xMs σ) Q) : Ex E pc L (.ref a :: S) (xMs σ) Q :=
  x_get hd hlink hin hc hk (xShp_lt hs) (xH_o hs) (by have := xfs_int (f := σ a) fs 0 k hf; rw [Nat.zero_add] at this; exact this) kk
theorem s_getiN {a ci k index N : Nat} {fs : List (Option Nat)} {C host : String} {T : u_T} (hd : decode E.1.2.1 pc = .ok (.getfield index, 3)) (hlink : Cond.fieldLinkNest E.1.1.cls index (T k).1 (T k).2.1 (T k).2.2.1 host ∈ xN) (hin : ∀ w ∈ u_ws C T N, w ∈ xT) (hc : vwCl[ci]? = some (C, T, N)) (hk : k < N) (hs : xShp[a]? = some (.inr (ci, fs))) (hf : fs[k]? = some none) (kk : Ex E (pc + 3) L (.int (σ a k) :: S) (xMs σ) Q) : Ex E pc L (.ref a :: S) (xMs σ) Q :=
  x_getN hd hlink hin hc hk (xShp_lt hs) (xH_o hs) (by have := xfs_int (f := σ a) fs 0 k hf; rw [Nat.zero_add] at this; exact this) kk
theorem s_getr {a ci k index N r : Nat} {fs : List (Option Nat)} {C : String} {T : u_T} (hd : decode E.1.2.1 pc = .ok (.getfield index, 3)) (hlink : Cond.fieldLink E.1.1.cls index (T k).1 (T k).2.1 (T k).2.2.1 ∈ xT) (hin : ∀ w ∈ u_ws C T N, w ∈ xT) (hc : vwCl[ci]? = some (C, T, N)) (hk : k < N) (hs : xShp[a]? = some (.inr (ci, fs))) (hf : fs[k]? = some (some r)) (kk : Ex E (pc + 3) L (.ref r :: S) (xMs σ) Q) : Ex E pc L (.ref a :: S) (xMs σ) Q :=
  x_get hd hlink hin hc hk (xShp_lt hs) (xH_o hs) (xfs_ref fs 0 k hf) kk
theorem s_getrN {a ci k index N r : Nat} {fs : List (Option Nat)} {C host : String} {T : u_T} (hd : decode E.1.2.1 pc = .ok (.getfield index, 3)) (hlink : Cond.fieldLinkNest E.1.1.cls index (T k).1 (T k).2.1 (T k).2.2.1 host ∈ xN) (hin : ∀ w ∈ u_ws C T N, w ∈ xT) (hc : vwCl[ci]? = some (C, T, N)) (hk : k < N) (hs : xShp[a]? = some (.inr (ci, fs))) (hf : fs[k]? = some (some r)) (kk : Ex E (pc + 3) L (.ref r :: S) (xMs σ) Q) : Ex E pc L (.ref a :: S) (xMs σ) Q :=
  x_getN hd hlink hin hc hk (xShp_lt hs) (xH_o hs) (xfs_ref fs 0 k hf) kk
theorem xset_eq {a ci k : Nat} {fs : List (Option Nat)} {x : Int32} (hs : xShp[a]? = some (.inr (ci, fs))) (hf : fs[k]? = some none) : (xu (xMs σ).1 a (.inr (ci, (xfs (σ a) 0 fs).set k (.int x))), (xMs σ).2) = xMs (sg σ a k x) := by
  refine xu_sw ?_
  rw [hs, xfs_set fs 0 k hf, Nat.zero_add]
  rfl
theorem s_puti {a ci k index N : Nat} {fs : List (Option Nat)} {C : String} {T : u_T} {ty0 : Nat → FieldType} {x : Int32} (hd : decode E.1.2.1 pc = .ok (.putfield index, 3)) (hlink : Cond.fieldLink E.1.1.cls index (T k).1 (T k).2.1 (T k).2.2.1 ∈ xT) (hin : ∀ w ∈ u_ws C T N, w ∈ xT) (hty : ∀ k, k < N → parseFieldDescriptor (T k).2.2.1 = some (ty0 k)) (hnm : ∀ a, a < N → ∀ b, b < N → a ≠ b → (T a).2.1 ≠ (T b).2.1) (hc : vwCl[ci]? = some (C, T, N)) (hk : k < N) (hfin : (T k).2.2.2 = false) (hint : ty0 k = .int) (hs : xShp[a]? = some (.inr (ci, fs))) (hf : fs[k]? = some none) (kk : Ex E (pc + 3) L S (xMs (sg σ a k x)) Q) : Ex E pc L (.int x :: .ref a :: S) (xMs σ) Q :=
  x_put hd hlink hin hty hnm hc hk hfin (xShp_lt hs) (xH_o hs) (by rw [hint]; rfl) (by rw [hint]; rfl) (by have := xfs_int (f := σ a) fs 0 k hf; exact (List.getElem?_eq_some_iff.mp this).1) (by rw [xset_eq hs hf]; exact kk)
theorem s_putiN {a ci k index N : Nat} {fs : List (Option Nat)} {C host : String} {T : u_T} {ty0 : Nat → FieldType} {x : Int32} (hd : decode E.1.2.1 pc = .ok (.putfield index, 3)) (hlink : Cond.fieldLinkNest E.1.1.cls index (T k).1 (T k).2.1 (T k).2.2.1 host ∈ xN) (hin : ∀ w ∈ u_ws C T N, w ∈ xT) (hty : ∀ k, k < N → parseFieldDescriptor (T k).2.2.1 = some (ty0 k)) (hnm : ∀ a, a < N → ∀ b, b < N → a ≠ b → (T a).2.1 ≠ (T b).2.1) (hc : vwCl[ci]? = some (C, T, N)) (hk : k < N) (hfin : (T k).2.2.2 = false) (hint : ty0 k = .int) (hs : xShp[a]? = some (.inr (ci, fs))) (hf : fs[k]? = some none) (kk : Ex E (pc + 3) L S (xMs (sg σ a k x)) Q) : Ex E pc L (.int x :: .ref a :: S) (xMs σ) Q :=
  x_putN hd hlink hin hty hnm hc hk hfin (xShp_lt hs) (xH_o hs) (by rw [hint]; rfl) (by rw [hint]; rfl) (by have := xfs_int (f := σ a) fs 0 k hf; exact (List.getElem?_eq_some_iff.mp this).1) (by rw [xset_eq hs hf]; exact kk)
theorem xn_in {n j : Nat} {i : Int32} (hi : i = nI j) (hj : j < n) (hn : n ≤ 1000) : vp_in i n ∧ i.toNatClampNeg = j := by
  subst hi
  exact ⟨vp_in_nI hj (by omega), nI_clamp (by omega)⟩
theorem s_iald {a n j : Nat} {i : Int32} (hd : decode E.1.2.1 pc = .ok (.iaload, 1)) (hs : xShp[a]? = some (.inl (0, n, none))) (hi : i = nI j) (hj : j < n) (hn : n ≤ 1000) (kk : Ex E (pc + 1) L (.int (σ a j) :: S) (xMs σ) Q) : Ex E pc L (.int i :: .ref a :: S) (xMs σ) Q := by
  obtain ⟨h1, h2⟩ := xn_in hi hj hn
  exact x_iald hd (xShp_lt hs) (xH_a hs) h1 (by rw [h2]; exact kk)
theorem s_cald {a n j : Nat} {i : Int32} (hd : decode E.1.2.1 pc = .ok (.caload, 1)) (hs : xShp[a]? = some (.inl (1, n, none))) (hi : i = nI j) (hj : j < n) (hn : n ≤ 1000) (kk : Ex E (pc + 1) L (.int (σ a j) :: S) (xMs σ) Q) : Ex E pc L (.int i :: .ref a :: S) (xMs σ) Q := by
  obtain ⟨h1, h2⟩ := xn_in hi hj hn
  exact x_cald hd (xShp_lt hs) (xH_a hs) h1 (by rw [h2]; exact kk)
theorem s_zald {a n j : Nat} {i : Int32} (hd : decode E.1.2.1 pc = .ok (.baload, 1)) (hs : xShp[a]? = some (.inl (2, n, none))) (hi : i = nI j) (hj : j < n) (hn : n ≤ 1000) (kk : Ex E (pc + 1) L (.int (σ a j) :: S) (xMs σ) Q) : Ex E pc L (.int i :: .ref a :: S) (xMs σ) Q := by
  obtain ⟨h1, h2⟩ := xn_in hi hj hn
  exact x_zald hd (xShp_lt hs) (xH_a hs) h1 (by rw [h2]; exact kk)
theorem s_iast {a n j : Nat} {i x : Int32} (hd : decode E.1.2.1 pc = .ok (.iastore, 1)) (hs : xShp[a]? = some (.inl (0, n, none))) (hi : i = nI j) (hj : j < n) (hn : n ≤ 1000) (kk : Ex E (pc + 1) L S (xMs (sg σ a j x)) Q) : Ex E pc L (.int x :: .int i :: .ref a :: S) (xMs σ) Q := by
  obtain ⟨h1, h2⟩ := xn_in hi hj hn
  refine x_iast hd (xShp_lt hs) (xH_a hs) h1 ?_
  rw [h2, xu_sw (a := a) (f := upd (σ a) j x) (by rw [hs]; rfl)]
  exact kk
theorem s_cast {a n j : Nat} {i x : Int32} (hd : decode E.1.2.1 pc = .ok (.castore, 1)) (hs : xShp[a]? = some (.inl (1, n, none))) (hi : i = nI j) (hj : j < n) (hn : n ≤ 1000) (kk : Ex E (pc + 1) L S (xMs (sg σ a j (vp_nar .char x))) Q) : Ex E pc L (.int x :: .int i :: .ref a :: S) (xMs σ) Q := by
  obtain ⟨h1, h2⟩ := xn_in hi hj hn
  refine x_cast hd (xShp_lt hs) (xH_a hs) h1 ?_
  rw [h2, xu_sw (a := a) (f := upd (σ a) j (vp_nar .char x)) (by rw [hs]; rfl)]
  exact kk
theorem s_zast {a n j : Nat} {i x : Int32} (hd : decode E.1.2.1 pc = .ok (.bastore, 1)) (hs : xShp[a]? = some (.inl (2, n, none))) (hi : i = nI j) (hj : j < n) (hn : n ≤ 1000) (kk : Ex E (pc + 1) L S (xMs (sg σ a j (vp_nar .boolean x))) Q) : Ex E pc L (.int x :: .int i :: .ref a :: S) (xMs σ) Q := by
  obtain ⟨h1, h2⟩ := xn_in hi hj hn
  refine x_zast hd (xShp_lt hs) (xH_a hs) h1 ?_
  rw [h2, xu_sw (a := a) (f := upd (σ a) j (vp_nar .boolean x)) (by rw [hs]; rfl)]
  exact kk
theorem s_aald {a n j b : Nat} {l : List Nat} {i : Int32} (hd : decode E.1.2.1 pc = .ok (.aaload, 1)) (hs : xShp[a]? = some (.inl (3, n, some l))) (hi : i = nI j) (hj : j < n) (hn : n ≤ 1000) (hg : l[j]? = some b) (kk : Ex E (pc + 1) L (.ref b :: S) (xMs σ) Q) : Ex E pc L (.int i :: .ref a :: S) (xMs σ) Q := by
  obtain ⟨h1, h2⟩ := xn_in hi hj hn
  exact x_aald hd (xShp_lt hs) (xH_q hs) h1 (by rw [h2]; exact hg) kk
theorem s_iinc {i k : Nat} (hd : decode E.1.2.1 pc = .ok (.iinc i 1, 3)) (hv : L[i]? = some (.int (nI k))) (hn : i < E.1.2.2.1) (ho : xok i L = true) (kk : Ex E (pc + 3) (L.set i (.int (nI (k + 1)))) S (xMs σ) Q) : Ex E pc L S (xMs σ) Q :=
  x_iinc hd hv hn ho (by rw [show nI k + Int32.ofInt 1 = nI (k + 1) from nI_1 k]; exact kk)
theorem s_copy {a0 a n0 n1 index N : Nat} {n : Int32} (hd : decode E.1.2.1 pc = .ok (.invokestatic index, 3)) (hw : Cond.methodLink E.1.1.cls index arraycopyName ∈ xT) (hs0 : xShp[a0]? = some (.inl (0, n0, none))) (hs1 : xShp[a]? = some (.inl (0, n1, none))) (hn : n = nI N) (hN0 : N ≤ n0) (hN1 : N ≤ n1) (hN : N ≤ 1000) (hS : S.length ≤ 4) (hdp : 1 ≤ E.2.1) (kk : Ex E (pc + 3) L S (xMs (sw σ a (cpN N (σ a0) (σ a)))) Q) : Ex E pc L (.int n :: .int 0 :: .ref a :: .int 0 :: .ref a0 :: S) (xMs σ) Q := by
  subst hn
  have e : (nI N).toNatClampNeg = N := nI_clamp (by omega)
  refine x_copy hd hw nt_acopy st_acopy iiJ10 (xShp_lt hs0) (xH_a hs0) (xShp_lt hs1) (xH_a hs1) (nI_pos (by omega)) (by rw [e]; exact hN0) (by rw [e]; exact hN1) hS hdp ?_
  rw [e, va_cpN, xu_sw (a := a) (f := cpN N (σ a0) (σ a)) (by rw [hs1]; rfl)]
  exact kk
theorem s_max {index : Nat} {x y : Int32} (hd : decode E.1.2.1 pc = .ok (.invokestatic index, 3)) (hw : Cond.methodLink E.1.1.cls index Lib.Math.max.name ∈ xT) (hE : E.2.2.1 = xB0) (hS : S.length ≤ 4) (hdp : 1 ≤ E.2.1) (kk : Ex E (pc + 3) L (.int (if x < y then y else x) :: S) (xMs σ) Q) : Ex E pc L (.int y :: .int x :: S) (xMs σ) Q :=
  x_max hd hw st_J9_max_7cf53 iiJ9 cd_mmax hS hdp (by rw [hE]; exact ⟨Nat.le_refl _, Nat.le_refl _⟩) kk
theorem s_min {index : Nat} {x y : Int32} (hd : decode E.1.2.1 pc = .ok (.invokestatic index, 3)) (hw : Cond.methodLink E.1.1.cls index Lib.Math.min.name ∈ xT) (hE : E.2.2.1 = xB0) (hS : S.length ≤ 4) (hdp : 1 ≤ E.2.1) (kk : Ex E (pc + 3) L (.int (if y < x then y else x) :: S) (xMs σ) Q) : Ex E pc L (.int y :: .int x :: S) (xMs σ) Q :=
  x_min hd hw st_J9_min_7cf53 iiJ9 cd_mmin hS hdp (by rw [hE]; exact ⟨Nat.le_refl _, Nat.le_refl _⟩) kk
theorem xBk_of {d : Nat} {Y : xY} (hE : E.2.2.1 = xB0) (hdd : d + 1 ≤ E.2.1 ∧ 8 + (Y.2.2.1 + 11) + 64 * d ≤ 64 * E.2.1) : xBk E (xMs σ) d Y xB0 (xQ P) :=
  ⟨hdd.1, hdd.2, Nat.le_refl _, Nat.le_refl _, by rw [hE]; exact Nat.le_refl _, by rw [hE]; exact Nat.le_refl _, fun v M h => by obtain ⟨σ', rfl, -⟩ := h; exact ⟨rfl, rfl⟩⟩
theorem s_callV {index ci n b d N : Nat} {Y : xY} {As : List Value} {fs : List (Option Nat)} {T : u_T} (hd : decode E.1.2.1 pc = .ok (.invokevirtual index, 3)) (hM : Cm d Y (.ref b :: As) σ P') (hst : S0 = As.reverse ++ .ref b :: S) (hw : xMw Y n) (hlk : xlm E.1.1.cls index Y.1) (hin : Cond.instanceMethod Y.1 ∈ xT) (hse : Cond.selects Y.1.cls Y.1 Y.1 ∈ xT) (hn : As.length = n) (hs : xShp[b]? = some (.inr (ci, fs))) (hc : vwCl[ci]? = some (Y.1.cls, T, N)) (hS : S.length ≤ 4) (hE : E.2.2.1 = xB0) (hdd : d + 1 ≤ E.2.1 ∧ 8 + (Y.2.2.1 + 11) + 64 * d ≤ 64 * E.2.1) (kk : ∀ v σ', P' v σ' → Ex E (pc + 3) L (v.toList ++ S) (xMs σ') Q) : Ex E pc L S0 (xMs σ) Q := by
  subst hst
  exact x_callV hd hM hw hlk hin hse hn ⟨xShp_lt hs, xH_o hs, hc⟩ hS (xBk_of hE hdd) (fun v M h => by obtain ⟨σ', rfl, hp⟩ := h; exact kk v σ' hp)
theorem s_callS {index n d : Nat} {Y : xY} {As : List Value} (hd : decode E.1.2.1 pc = .ok (.invokestatic index, 3)) (hM : Cm d Y As σ P') (hst : S0 = As.reverse ++ S) (hw : xMw Y n) (hlk : xlm E.1.1.cls index Y.1) (hin : Cond.static Y.1 ∈ xT) (hn : As.length = n) (hS : S.length ≤ 4) (hE : E.2.2.1 = xB0) (hdd : d + 1 ≤ E.2.1 ∧ 8 + (Y.2.2.1 + 11) + 64 * d ≤ 64 * E.2.1) (kk : ∀ v σ', P' v σ' → Ex E (pc + 3) L (v.toList ++ S) (xMs σ') Q) : Ex E pc L S0 (xMs σ) Q := by
  subst hst
  exact x_callS hd hM hw hlk hin hn hS (xBk_of hE hdd) (fun v M h => by obtain ⟨σ', rfl, hp⟩ := h; exact kk v σ' hp)
theorem s_ret (hd : decode E.1.2.1 pc = .ok (.return_, 1)) (hr : E.1.2.2.2 = none) (hq : P none σ) : Ex E pc L [] (xMs σ) (xQ P) := x_ret hd hr ⟨σ, rfl, hq⟩
theorem s_iret {x : Int32} (hd : decode E.1.2.1 pc = .ok (.ireturn, 1)) (hr : E.1.2.2.2 = some .int) (hq : P (some (.int x)) σ) : Ex E pc L [.int x] (xMs σ) (xQ P) := x_iret hd hr rfl ⟨σ, rfl, hq⟩
theorem s_zret {x : Int32} (hd : decode E.1.2.1 pc = .ok (.ireturn, 1)) (hr : E.1.2.2.2 = some .boolean) (hx : x = 0 ∨ x = 1) (hq : P (some (.int x)) σ) : Ex E pc L [.int x] (xMs σ) (xQ P) := x_iret hd hr (by rcases hx with rfl | rfl <;> rfl) ⟨σ, rfl, hq⟩
theorem s_lret {x : Int64} (hd : decode E.1.2.1 pc = .ok (.lreturn, 1)) (hr : E.1.2.2.2 = some .long) (hq : P (some (.long x)) σ) : Ex E pc L [.long x] (xMs σ) (xQ P) := x_lret hd hr ⟨σ, rfl, hq⟩
end XG

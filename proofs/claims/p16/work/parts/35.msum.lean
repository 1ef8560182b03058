/-! sums -/
def sm (f : Nat → Int) : Nat → Int
  | 0 => 0
  | m + 1 => sm f m + f m
theorem sm_c {f g : Nat → Int} : ∀ m : Nat, (∀ i, i < m → g i = f i) → sm g m = sm f m := by
  intro m
  induction m with
  | zero => intro _; rfl
  | succ m ih =>
    intro h
    rw [sm, sm, ih (fun i hi => h i (by omega)), h m (by omega)]
theorem sm_u {f g : Nat → Int} {k : Nat} : ∀ m : Nat, k < m → (∀ i, i < m → i ≠ k → g i = f i) → sm g m = sm f m - f k + g k := by
  intro m
  induction m with
  | zero => intro h; omega
  | succ m ih =>
    intro hk h
    rw [sm, sm]
    by_cases e : k = m
    · subst e
      rw [sm_c (f := f) k (fun i hi => h i (by omega) (by omega))]
      omega
    · rw [ih (by omega) (fun i hi => h i (by omega)), h m (by omega) (fun q => e q.symm)]
      omega
theorem sm_p {f : Nat → Int} : ∀ m : Nat, (∀ i, i < m → 0 ≤ f i) → 0 ≤ sm f m := by
  intro m
  induction m with
  | zero => intro _; exact Int.le_refl 0
  | succ m ih =>
    intro h
    rw [sm]
    have := ih (fun i hi => h i (by omega))
    have := h m (by omega)
    omega
theorem sm_g {f : Nat → Int} {b : Int} : ∀ m : Nat, (∀ i, i < m → f i ≤ b) → sm f m ≤ m * b := by
  intro m
  induction m with
  | zero => intro _; simp [sm]
  | succ m ih =>
    intro h
    rw [sm]
    have h1 := ih (fun i hi => h i (by omega))
    have h2 := h m (by omega)
    have : ((m + 1 : Nat) : Int) * b = m * b + b := by rw [Int.natCast_add, Int.add_mul]; simp
    omega
theorem sm_le {f : Nat → Int} {k : Nat} : ∀ m : Nat, (∀ i, i < m → 0 ≤ f i) → k < m → f k ≤ sm f m := by
  intro m
  induction m with
  | zero => intro _ h; omega
  | succ m ih =>
    intro h hk
    rw [sm]
    by_cases e : k = m
    · subst e
      have := sm_p k (fun i hi => h i (by omega))
      omega
    · have := ih (fun i hi => h i (by omega)) (by omega)
      have := h m (by omega)
      omega
/-! the list of changes -/
abbrev Ce : Type := Int32 × Int32 × Int32
def cl (N : Mem) (m : Nat) : List Ce := (List.range m).map (fun k => (N 20 k, N 21 k, N 22 k))
def cL (N : Mem) : List Ce := cl N (N 0 23).toInt.toNat
theorem cl_len {N : Mem} {m : Nat} : (cl N m).length = m := by simp [cl]
theorem cl_c {N N' : Mem} {m : Nat} (h : ∀ k, k < m → N' 20 k = N 20 k ∧ N' 21 k = N 21 k ∧ N' 22 k = N 22 k) : cl N' m = cl N m := by
  unfold cl
  apply List.map_congr_left
  intro k hk
  have := h k (List.mem_range.mp hk)
  rw [this.1, this.2.1, this.2.2]
theorem cl_s {N : Mem} {m : Nat} : cl N (m + 1) = cl N m ++ [(N 20 m, N 21 m, N 22 m)] := by
  simp [cl, List.range_succ]
/-- how many are w's -/
def cw (w : Int32) (l : List Ce) : Nat := l.countP (fun e => decide (e.1 = w))
theorem cw_app {w : Int32} {l k : List Ce} : cw w (l ++ k) = cw w l + cw w k := List.countP_append
theorem cw_fl {w v : Int32} {l : List Ce} : cw v (l.filter (fun e => decide (¬ e.1 = w))) = if v = w then 0 else cw v l := by
  induction l with
  | nil => simp [cw]
  | cons e l ih =>
    by_cases h : e.1 = w
    · rw [List.filter_cons_of_neg (by simp [h]), ih]
      by_cases hv : v = w
      · simp [hv]
      · have : ¬ w = v := fun q => hv q.symm
        simp [hv, cw, h, this]
    · rw [List.filter_cons_of_pos (by simp [h])]
      by_cases hv : v = w
      · subst hv
        simp only [cw, List.countP_cons] at ih ⊢
        simp [h] at ih ⊢
      · simp only [cw, List.countP_cons] at ih ⊢
        rw [ih]
        simp [hv]
/-- all together -/
theorem cw_all {l : List Ce} (h : ∀ e, e ∈ l → 0 ≤ e.1.toInt ∧ e.1.toInt ≤ 11) : sm (fun w => (cw (nI w) l : Int)) 12 = l.length := by
  induction l with
  | nil => simp [cw, sm]
  | cons e l ih =>
    have h1 := h e (List.mem_cons_self ..)
    have ih := ih (fun x hx => h x (List.mem_cons_of_mem _ hx))
    have hk : e.1 = nI e.1.toInt.toNat := by rw [ti_eq, ti_nI (by omega)]; omega
    have q := sm_u (f := fun w => (cw (nI w) l : Int)) (g := fun w => (cw (nI w) (e :: l) : Int)) (k := e.1.toInt.toNat) 12 (by omega) (fun i hi hne => by
      have : ¬ e.1 = nI i := by rw [ti_eq, ti_nI (by omega)]; omega
      simp [cw, List.countP_cons, this])
    rw [q, ih]
    have : cw (nI e.1.toInt.toNat) (e :: l) = cw (nI e.1.toInt.toNat) l + 1 := by
      rw [← hk]; simp [cw, List.countP_cons]
    simp only [this, List.length_cons]
    omega

/-! Geometry, loops -/
/-- a loop that runs through states s 0, s 1 .. s e and ends there -/
theorem lp_run {α S β : Type} (z : α) (step : α → α) (ap : α → S → β) (s : Nat → S) (e : Nat) (out : β) (hs : ∀ (i : Nat) (rec : α), i < e → ap (step rec) (s i) = ap rec (s (i + 1))) (he : ∀ rec : α, ap (step rec) (s e) = out) : ∀ (j i n : Nat), i + j = e → j < n → ap (lp z step n) (s i) = out := by
  intro j
  induction j with
  | zero =>
    intro i n hi hn
    obtain ⟨m, rfl⟩ : ∃ m, n = m + 1 := ⟨n - 1, by omega⟩
    obtain rfl : i = e := by omega
    exact he _
  | succ j ih =>
    intro i n hi hn
    obtain ⟨m, rfl⟩ : ∃ m, n = m + 1 := ⟨n - 1, by omega⟩
    rw [lp_s, hs i _ (by omega)]
    exact ih (i + 1) m (by omega) (by omega)
theorem lp_FU {α S β : Type} (z : α) (step : α → α) (ap : α → S → β) (s : Nat → S) (e : Nat) (out : β) (hs : ∀ (i : Nat) (rec : α), i < e → ap (step rec) (s i) = ap rec (s (i + 1))) (he : ∀ rec : α, ap (step rec) (s e) = out) (hf : e < 600) : ap (lp z step FU) (s 0) = out := lp_run z step ap s e out hs he e 0 600 (by omega) hf
/-- a reference's state of which only width and height are looked at -/
def mWH (w h : Int32) : MM := (w, h, (fun _ => 0), (fun _ => 0), (fun _ => 0), 0, 0, 0, (fun _ => 0), (fun _ => 0), 0, 0, (fun _ => 0), 0, 0, 0, 0, (fun _ => 0), (fun _ => 0), (fun _ => 0), (fun _ => 0), 0, (fun _ => 0), (fun _ => 0), 0)
def iF (f : Nat) : Int32 := if f = 99 then -1 else nI f
theorem geo_edge0 : ∀ W, W < 5 → 1 ≤ W → ∀ H, H < 5 → 1 ≤ H → ∀ f, f < nF W H → ∀ s, s < 4 → f_X4_edge (mWH (nI W) (nI H)) (nI f) (nI s) = some (nI (eg W H f s)) := by decide +kernel
theorem geo_field0 : ∀ W, W < 5 → 1 ≤ W → ∀ H, H < 5 → 1 ≤ H → ∀ e, e < nE W H → ∀ s, s < 2 → f_X4_field (mWH (nI W) (nI H)) (nI e) (nI s) = some (iF (fd W H e s)) := by decide +kernel

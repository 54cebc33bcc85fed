/-! What class and reference have in common: the board as numbers and sets; when states belong together -/
/-- W, H, hedges, dug, owners (0, 1; 2: nobody) -/
abbrev BD : Type := Nat × Nat × (Nat → Bool) × (Nat → Bool) × (Nat → Nat)
def bW (b : BD) : Nat := b.1
def bH (b : BD) : Nat := b.2.1
def bh (b : BD) : Nat → Bool := b.2.2.1
def bd (b : BD) : Nat → Bool := b.2.2.2.1
def bo (b : BD) : Nat → Nat := b.2.2.2.2
def nF (W H : Nat) : Nat := W * H
def nU (W H : Nat) : Nat := W * (H + 1)
def nE (W H : Nat) : Nat := nU W H + H * (W + 1)
/-- the edges of a field: above, below, left, right -/
def eg (W H f s : Nat) : Nat := match s with
  | 0 => f
  | 1 => f + W
  | 2 => nU W H + f / W * (W + 1) + f % W
  | _ => nU W H + f / W * (W + 1) + f % W + 1
/-- the fields of an edge: above or left, below or right; 99: none -/
def fd (W H e s : Nat) : Nat :=
  if e < nU W H then (if s = 0 then (if W ≤ e then e - W else 99) else (if e < nF W H then e else 99))
  else if s = 0 then (if (e - nU W H) % (W + 1) = 0 then 99 else (e - nU W H) / (W + 1) * W + (e - nU W H) % (W + 1) - 1)
  else (if (e - nU W H) % (W + 1) < W then (e - nU W H) / (W + 1) * W + (e - nU W H) % (W + 1) else 99)
def bn (b : BD) : Nat := nF (bW b) (bH b)
def be (b : BD) : Nat := nE (bW b) (bH b)
def cb (c : Bool) : Nat := if c = true then 1 else 0
/-- how many hedges a field has, out of a set of edges -/
def ct (W H : Nat) (hs : Nat → Bool) (f : Nat) : Nat := cb (hs (eg W H f 0)) + cb (hs (eg W H f 1)) + cb (hs (eg W H f 2)) + cb (hs (eg W H f 3))
def cnt (b : BD) (f : Nat) : Nat := ct (bW b) (bH b) (bh b) f
/-- a board that can be -/
def BOK (b : BD) : Prop := (1 ≤ bW b ∧ bW b ≤ 4) ∧ (1 ≤ bH b ∧ bH b ≤ 4) ∧ (∀ e, be b ≤ e → bh b e = false) ∧ (∀ f, bn b ≤ f → bd b f = false ∧ bo b f = 2) ∧ (∀ f, bo b f ≤ 2) ∧ ∀ f, f < bn b → (bo b f < 2 ↔ cnt b f = 4)
/-- the class's game holds the board -/
def GGeo (g : GG) (W H : Nat) : Prop := g_width g = nI W ∧ g_height g = nI H ∧ g_fields g = nI (nF W H) ∧ g_edges g = nI (nE W H) ∧ g_uprights g = nI (nU W H) ∧
  (∀ i, i < 32 → bt (g_all g) i = decide (i < nF W H)) ∧ (∀ i, i < 32 → bt (g_leftmost g) i = (decide (i < nF W H) && decide (i % W = 0))) ∧ (∀ i, i < 32 → bt (g_rightmost g) i = (decide (i < nF W H) && decide (i % W + 1 = W))) ∧
  ∀ e, e < 64 → bl (g_rimEdges g) e = (decide (e < nE W H) && (decide (fd W H e 0 = 99) || decide (fd W H e 1 = 99)))
def GB (g : GG) (b : BD) : Prop := GGeo g (bW b) (bH b) ∧ (∀ e, e < 64 → bl (g_hedges g) e = bh b e) ∧ (∀ f, f < 32 → bt (g_dug g) f = bd b f) ∧ (∀ f, f < 32 → bt (g_ownedBy0 g) f = decide (bo b f = 0)) ∧ ∀ f, f < 32 → bt (g_ownedBy1 g) f = decide (bo b f = 1)
def ib (c : Bool) : Int32 := if c = true then 1 else 0
def io (o : Nat) : Int32 := if o = 0 then 0 else if o = 1 then 1 else -1
/-- the reference holds the board -/
def MB (σ : MM) (b : BD) : Prop := m_w σ = nI (bW b) ∧ m_h σ = nI (bH b) ∧ (∀ e, e < 40 → m_hedge σ e = ib (bh b e)) ∧ (∀ f, f < 16 → m_dug σ f = ib (bd b f)) ∧ ∀ f, f < 16 → m_owner σ f = io (bo b f)
/-- whose turn, how many moves, the seed -/
def GS (g : GG) (t : Nat) (mv sd : Int32) : Prop := t < 2 ∧ g_turn g = nI t ∧ g_made g = mv ∧ g_seed g = sd
def MS (σ : MM) (t : Nat) (mv sd : Int32) : Prop := t < 2 ∧ m_turn σ = nI t ∧ m_made σ = mv ∧ m_seed σ = sd
def GRel (g : GG) (σ : MM) : Prop := ∃ (b : BD) (t : Nat) (mv sd : Int32), BOK b ∧ GB g b ∧ MB σ b ∧ GS g t mv sd ∧ MS σ t mv sd
/-- players -/
def PRel (x : XX) (σ : MM) : Prop := ∃ P : Nat, P ≤ 6 ∧ x_crew x = nI P ∧ m_players σ = nI P ∧ ∀ p, p < P → x_kinds x p = m_kind σ p ∧ x_amounts x p = m_own σ p ∧ (∃ k, k < 6 ∧ m_kind σ p = nI k) ∧ ∃ a, a < 10 ∧ m_own σ p = nI a
/-- shelves -/
def SRel (x : XX) (σ : MM) : Prop := ∀ s, s < 8 → s_content (x_shelf x s) = m_holding σ s ∧
  ((m_holding σ s = -1 ∧ s_length (x_shelf x s) = 0) ∨ (∃ p : Nat, m_holding σ s = nI (p + 10) ∧ nI p < m_players σ ∧ p < 6 ∧ s_length (x_shelf x s) = 0) ∨
   ∃ k n : Nat, k < 5 ∧ m_holding σ s = nI k ∧ n ≤ 40 ∧ s_length (x_shelf x s) = nI n ∧ m_rowLength σ s = nI n ∧ ∀ i, i < n → s_elements (x_shelf x s) i = m_rowOf σ (40 * s + i))
/-- the tape -/
def TRel (x : XX) (σ : MM) : Prop := ∃ n : Nat, n ≤ 250 ∧ t_length (x_tape x) = nI n ∧ m_taped σ = nI n ∧ ∀ i, i < n → t_bytes (x_tape x) i = m_tape σ i ∧ ∃ c, c < 256 ∧ m_tape σ i = nI c
/-- refusals -/
def RRel (x : XX) (σ : MM) : Prop := ∀ i, i < 5 → x_refusals x i = m_refusals σ (i + 2)
/-- a kept state, as the reference lays it down -/
def kept (k : Nat → Int32) (σ : MM) : Prop := (∀ e, e < 40 → k e = ib (decide (m_hedge σ e ≠ 0))) ∧ (∀ f, f < 16 → k (40 + f) = ib (decide (m_dug σ f ≠ 0)) ∧ k (56 + f) = m_owner σ f) ∧ (∀ p, p < 6 → k (72 + p) = m_kind σ p ∧ k (78 + p) = m_own σ p) ∧ k 84 = m_w σ ∧ k 85 = m_h σ ∧ k 86 = m_turn σ ∧ k 87 = m_made σ ∧ k 88 = m_players σ ∧ k 89 = m_seed σ
/-- the image -/
def IRel (x : XX) (σ : MM) : Prop := (m_imaged σ = 0 ∧ x_keptCrew x = -1) ∨ (m_imaged σ = 1 ∧ ∃ (τ : MM) (P : Nat), kept (m_old σ) τ ∧ GRel (x_kept x) τ ∧ P ≤ 6 ∧ x_keptCrew x = nI P ∧ m_players τ = nI P ∧ ¬ m_players σ < nI P ∧ ∀ p, p < P → x_kinds x p = m_kind τ p ∧ x_amounts x p = m_own τ p ∧ (∃ k, k < 6 ∧ m_kind τ p = nI k) ∧ ∃ a, a < 10 ∧ m_own τ p = nI a)
def Rel (x : XX) (σ : MM) : Prop := GRel (x_now x) σ ∧ PRel x σ ∧ SRel x σ ∧ TRel x σ ∧ RRel x σ ∧ IRel x σ

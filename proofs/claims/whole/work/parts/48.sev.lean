/-! several -/
theorem ax_dm {c p b x : Nat} (h : x = c * p + b) (hb : b < c) : x % c = b ∧ x / c = p := by
  subst h
  exact ⟨by rw [Nat.mul_add_mod, Nat.mod_eq_of_lt hb], by rw [Nat.mul_add_div (by omega), Nat.div_eq_of_lt hb, Nat.add_zero]⟩
/-- minutes of side i -/
def ndW (W : Nat → Int) (i : Nat) : Nat := (W (8 + 3 * (i / 2) + i % 2)).toNat
/-- the row cut at every c minutes, behind i sides: the PLACE, the minute, the GOES -/
def sv (nd : Nat → Nat) (c : Nat) : Nat → Nat × Nat × List Go
  | 0 => (0, 0, [])
  | i + 1 => if (sv nd c i).2.1 + nd i < c then ((sv nd c i).1, (sv nd c i).2.1 + nd i, (sv nd c i).2.2 ++ [(((i / 2 : Nat) : Int), ((i % 2 : Nat) : Int), ((sv nd c i).2.1 : Int), ((sv nd c i).1 : Int), (nd i : Int))])
    else ((sv nd c i).1 + 1, (sv nd c i).2.1 + nd i - c, ((sv nd c i).2.2 ++ [(((i / 2 : Nat) : Int), ((i % 2 : Nat) : Int), ((sv nd c i).2.1 : Int), ((sv nd c i).1 : Int), ((c - (sv nd c i).2.1 : Nat) : Int))]) ++ (if c - (sv nd c i).2.1 < nd i then [(((i / 2 : Nat) : Int), ((i % 2 : Nat) : Int), 0, (((sv nd c i).1 + 1 : Nat) : Int), ((nd i - (c - (sv nd c i).2.1) : Nat) : Int))] else []))
def preS (nd : Nat → Nat) : Nat → Nat
  | 0 => 0
  | i + 1 => preS nd i + nd i
theorem sv_ok {nd : Nat → Nat} {c n : Nat} (h1 : ∀ i, i < n → 1 ≤ nd i ∧ nd i ≤ c) (hc : 0 < c) : ∀ i, i ≤ n → (sv nd c i).2.1 < c ∧ preS nd i = c * (sv nd c i).1 + (sv nd c i).2.1 := by
  intro i
  induction i with
  | zero => intro _; exact ⟨hc, rfl⟩
  | succ i ih =>
    intro hi
    obtain ⟨a, b⟩ := ih (by omega)
    have h2 := h1 i (by omega)
    unfold sv preS
    split
    · dsimp only; omega
    · dsimp only
      refine ⟨by omega, ?_⟩
      rw [Nat.mul_add, Nat.mul_one]
      omega
theorem preS_mono {nd : Nat → Nat} : ∀ i j, i ≤ j → preS nd i ≤ preS nd j := by
  intro i j h
  induction j with
  | zero => rw [show i = 0 by omega]; exact Nat.le_refl _
  | succ j ih =>
    by_cases h2 : i = j + 1
    · rw [h2]; exact Nat.le_refl _
    · have := ih (by omega)
      show preS nd i ≤ preS nd j + nd j
      omega
theorem gs_all {G : List Go} {P : Go → Prop} (h : ∀ g, g ∈ G → P g) {k : Nat} (hk : k < G.length) : P (gs G k) := by
  unfold gs
  rw [List.getD_eq_getElem?_getD, List.getElem?_eq_getElem hk]
  exact h _ (List.getElem_mem hk)
theorem sv_go {nd : Nat → Nat} {c n s pl : Nat} (h1 : ∀ i, i < n → 1 ≤ nd i ∧ nd i ≤ c ∧ nd i ≤ 20) (hc : 0 < c) (hc2 : c ≤ 800) (hs : n ≤ 2 * s) (hs2 : s ≤ 8) (hp : preS nd n ≤ c * pl) (hp2 : pl ≤ 4) : ∀ i, i ≤ n → (sv nd c i).2.2.length ≤ 2 * i ∧ ∀ g, g ∈ (sv nd c i).2.2 → go_ok g ∧ g.1 < s ∧ g.2.2.2.1 < pl := by
  intro i
  induction i with
  | zero => intro _; exact ⟨Nat.le_refl 0, fun g hg => absurd hg (by simp [sv])⟩
  | succ i ih =>
    intro hi
    obtain ⟨a, b⟩ := ih (by omega)
    obtain ⟨d, e⟩ := sv_ok (n := n) (fun i hi => ⟨(h1 i hi).1, (h1 i hi).2.1⟩) hc i (by omega)
    have h2 := h1 i (by omega)
    have h3 : preS nd (i + 1) ≤ preS nd n := preS_mono _ _ hi
    have h3 : preS nd i + nd i ≤ preS nd n := h3
    have h4 : c * (sv nd c i).1 < c * pl := by omega
    have h5 : (sv nd c i).1 < pl := Nat.lt_of_mul_lt_mul_left h4
    unfold sv
    split
    · rename_i hlt
      dsimp only
      refine ⟨by rw [List.length_append, List.length_singleton]; omega, fun g hg => ?_⟩
      rw [List.mem_append, List.mem_singleton] at hg
      rcases hg with hg | hg
      · exact b g hg
      · subst hg
        unfold go_ok
        dsimp only
        omega
    · rename_i hlt
      dsimp only
      refine ⟨by rw [List.length_append, List.length_append, List.length_singleton]; split <;> simp <;> omega, fun g hg => ?_⟩
      rw [List.mem_append, List.mem_append, List.mem_singleton] at hg
      rcases hg with (hg | hg) | hg
      · exact b g hg
      · subst hg
        unfold go_ok
        dsimp only
        omega
      · split at hg
        · rename_i h6
          rw [List.mem_singleton] at hg
          have h7 : c * ((sv nd c i).1 + 1) < c * pl := by rw [Nat.mul_add, Nat.mul_one]; omega
          have h8 : (sv nd c i).1 + 1 < pl := Nat.lt_of_mul_lt_mul_left h7
          subst hg
          unfold go_ok
          dsimp only
          omega
        · cases hg
def cutW (W : Nat → Int) : Int := if lonW W < bypW W then bypW W else lonW W
def cutN (W : Nat → Int) : Nat := (cutW W).toNat
def sevG (W : Nat → Int) : List Go := (sv (ndW W) (cutN W) (2 * nS W)).2.2
theorem preS_fsum {W : Nat → Int} (hk : wk W) : ∀ s, s ≤ nS W → (preS (ndW W) (2 * s) : Int) = am_fsum (fun s => W (8 + 3 * s) + W (8 + 3 * s + 1)) s := by
  intro s
  induction s with
  | zero => intro _; rfl
  | succ s ih =>
    intro hs
    have h1 := ih (by omega)
    have h2 := hk.2.1 s (by omega)
    rw [show 2 * (s + 1) = 2 * s + 1 + 1 by omega]
    have e1 : (ndW W (2 * s) : Int) = W (8 + 3 * s) := by
      unfold ndW
      rw [show 2 * s / 2 = s by omega, show 2 * s % 2 = 0 by omega, Nat.add_zero]
      omega
    have e2 : (ndW W (2 * s + 1) : Int) = W (8 + 3 * s + 1) := by
      unfold ndW
      rw [show (2 * s + 1) / 2 = s by omega, show (2 * s + 1) % 2 = 1 by omega]
      omega
    show ((preS (ndW W) (2 * s) + ndW W (2 * s) + ndW W (2 * s + 1) : Nat) : Int) = am_fsum (fun s => W (8 + 3 * s) + W (8 + 3 * s + 1)) s + (W (8 + 3 * s) + W (8 + 3 * s + 1))
    omega
theorem fmax_ge {f : Nat → Int} {n k : Nat} (h : k < n) : f k ≤ am_fmax f n := by
  induction n with
  | zero => omega
  | succ n ih =>
    unfold am_fmax
    by_cases hk : k = n
    · subst hk; split <;> omega
    · have := ih (by omega)
      split <;> omega
theorem cut_ok {W : Nat → Int} (hk : wk W) (hn : 0 < nS W) : cutW W = (cutN W : Int) ∧ 2 ≤ cutN W ∧ cutN W ≤ 323 ∧ (∀ i, i < 2 * nS W → 1 ≤ ndW W i ∧ ndW W i ≤ cutN W ∧ ndW W i ≤ 20) ∧ preS (ndW W) (2 * nS W) ≤ cutN W * (W 0).toNat := by
  have t0 := totW_le hk (u := 0) (by decide)
  have t1 := totW_le hk (u := 1) (by decide)
  have l0 := lonW_le hk
  obtain ⟨⟨w0⟩, -⟩ := id hk
  have d1 : 0 ≤ bypW W := Int.ediv_nonneg (by omega) (by omega)
  have d2 : bypW W ≤ totW W 0 + totW W 1 + W 0 - 1 := Int.ediv_le_self _ (by omega)
  have l1 : ∀ s, s < nS W → W (8 + 3 * s) + W (8 + 3 * s + 1) ≤ lonW W := fun s hs => fmax_ge (f := fun s => W (8 + 3 * s) + W (8 + 3 * s + 1)) hs
  have c0 : lonW W ≤ cutW W ∧ bypW W ≤ cutW W ∧ cutW W ≤ 323 := by unfold cutW; split <;> omega
  have c1 : cutW W = (cutN W : Int) := by unfold cutN; omega
  have b0 := hk.2.1 0 hn
  have l2 := l1 0 hn
  refine ⟨c1, by omega, by omega, fun i hi => ?_, ?_⟩
  · have b1 := hk.2.1 (i / 2) (by omega)
    have b2 := l1 (i / 2) (by omega)
    unfold ndW
    rcases (show i % 2 = 0 ∨ i % 2 = 1 by omega) with h | h
    · rw [h, Nat.add_zero]; omega
    · rw [h]; omega
  · have e := preS_fsum hk (nS W) (Nat.le_refl _)
    have e2 : am_fsum (fun s => W (8 + 3 * s) + W (8 + 3 * s + 1)) (nS W) = totW W 0 + totW W 1 := allW_eq
    rw [e2] at e
    -- all minutes are at most what PLACES rows of the cut hold
    have m1 : (totW W 0 + totW W 1 + W 0 - 1) < (bypW W + 1) * W 0 := by
      have := Int.lt_ediv_add_one_mul_self (totW W 0 + totW W 1 + W 0 - 1) (show 0 < W 0 by omega)
      exact this
    have m2 : (bypW W + 1) * W 0 = bypW W * W 0 + W 0 := by rw [Int.add_mul, Int.one_mul]
    have m3 : bypW W * W 0 ≤ cutW W * W 0 := Int.mul_le_mul_of_nonneg_right c0.2.1 (by omega)
    have m4 : ((cutN W * (W 0).toNat : Nat) : Int) = cutW W * W 0 := by rw [Int.natCast_mul, ← c1]; congr 1; omega
    omega
theorem sev_ok {W : Nat → Int} (hk : wk W) (hn : 0 < nS W) : (sevG W).length ≤ 32 ∧ gkt W (sevG W) ∧ gok (sevG W) := by
  obtain ⟨c1, c2, c3, c4, c5⟩ := cut_ok hk hn
  have n1 := wk_nS hk
  obtain ⟨⟨w0⟩, -⟩ := id hk
  obtain ⟨a, b⟩ := sv_go (s := nS W) (pl := (W 0).toNat) c4 (by omega) (by omega) (Nat.le_refl _) n1.2 c5 (by omega) (2 * nS W) (Nat.le_refl _)
  refine ⟨by unfold sevG; omega, fun k hk2 => ?_, by unfold sevG; omega, fun k hk2 => ?_⟩
  · have := gs_all b hk2
    unfold gS gL
    refine ⟨?_, ?_⟩
    · have h := this.2.1; unfold sevG; omega
    · have h := this.2.2; unfold sevG; omega
  · exact (gs_all b hk2).1

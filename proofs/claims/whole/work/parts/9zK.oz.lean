/-! ONE: sides set one by one (b s: where side s begins, -1 not set; q s: what it needs; r: REST) -/
def ozP (s : Nat) : Nat := if s % 2 = 0 then s + 1 else s - 1
def ozI (q b : Nat → Int) (t : Int) (s : Nat) : Bool := decide (0 ≤ b s ∧ b s ≤ t ∧ t < b s + q s)
def ozB (n : Nat) (q b : Nat → Int) (t : Int) : Nat := ax_ct (ozI q b t) n
def ozC (n P : Nat) (ρ : Int) (q b : Nat → Int) (s : Nat) (x : Int) : Prop := (∀ t, x ≤ t → t < x + q s → ozB n q b t < P) ∧ (b (ozP s) = -1 ∨ b (ozP s) + q (ozP s) + ρ ≤ x ∨ x + q s + ρ ≤ b (ozP s))
def ozE (n P : Nat) (ρ : Int) (q b : Nat → Int) (s : Nat) (x : Int) : Prop := 0 ≤ x ∧ ozC n P ρ q b s x ∧ ∀ y, 0 ≤ y → y < x → ¬ ozC n P ρ q b s y
noncomputable def oze (n P : Nat) (ρ : Int) (q b : Nat → Int) (s : Nat) : Int := Classical.epsilon (fun x => ozE n P ρ q b s x)
def ozM (n : Nat) (q b : Nat → Int) : Int := am_fmax (fun s => if b s = -1 then 0 else b s + q s) n
def ozO (n : Nat) (b : Nat → Int) : Nat := ax_ct (fun s => decide (b s = -1)) n
def ozV (n P : Nat) (ρ : Int) (q b : Nat → Int) : Prop := (∀ s, s < n → b s = -1 ∨ 0 ≤ b s) ∧ (∀ t, ozB n q b t ≤ P) ∧ ∀ s, s < n → b s ≠ -1 → b (ozP s) ≠ -1 → b s + q s + ρ ≤ b (ozP s) ∨ b (ozP s) + q (ozP s) + ρ ≤ b s
def ozQ (n P : Nat) (ρ : Int) (q : Nat → Int) : Prop := n ≤ 8 ∧ n % 2 = 0 ∧ 1 ≤ P ∧ P ≤ 4 ∧ 0 ≤ ρ ∧ ρ ≤ 9 ∧ ∀ s, s < n → 1 ≤ q s ∧ q s ≤ 20
section OZ
variable {n P : Nat} {ρ : Int} {q b : Nat → Int}
theorem ozP_p {s : Nat} : ozP (ozP s) = s ∧ ozP s ≠ s := by
  unfold ozP
  (repeat' split) <;> omega
theorem ozP_lt {s : Nat} (hn : n % 2 = 0) (h : s < n) : ozP s < n := by
  unfold ozP
  split <;> omega
theorem ozE_u {s : Nat} {x y : Int} (h1 : ozE n P ρ q b s x) (h2 : ozE n P ρ q b s y) : x = y := by
  have a : ¬ x < y := fun h => h2.2.2 x h1.1 h h1.2.1
  have c : ¬ y < x := fun h => h1.2.2 y h2.1 h h2.2.1
  omega
theorem oze_eq {s : Nat} {x : Int} (h : ozE n P ρ q b s x) : oze n P ρ q b s = x := ozE_u (Classical.epsilon_spec (p := fun x => ozE n P ρ q b s x) ⟨x, h⟩) h
theorem ozfg {f : Nat → Int} : ∀ n s, s < n → f s ≤ am_fmax f n
  | 0, s, h => absurd h (Nat.not_lt_zero s)
  | n + 1, s, h => by
    have e : am_fmax f (n + 1) = if am_fmax f n < f n then f n else am_fmax f n := rfl
    rw [e]
    by_cases h2 : s = n
    · subst h2; split <;> omega
    · have := ozfg (f := f) n s (by omega)
      split <;> omega
theorem fmax_0 {f : Nat → Int} : ∀ n, 0 ≤ am_fmax f n
  | 0 => Int.le_refl 0
  | n + 1 => by
    have e : am_fmax f (n + 1) = if am_fmax f n < f n then f n else am_fmax f n := rfl
    have := fmax_0 (f := f) n
    rw [e]; split <;> omega
theorem ozM_ge {s : Nat} (h : s < n) (hb : b s ≠ -1) : b s + q s ≤ ozM n q b := by
  have := ozfg (f := fun s => if b s = -1 then 0 else b s + q s) n s h
  rw [if_neg hb] at this
  exact this
theorem ozB_late {t : Int} (hQ : ozQ n P ρ q) (h : ozM n q b ≤ t) : ozB n q b t = 0 := by
  unfold ozB
  have e := ax_ct_cg (c := ozI q b t) (e := fun _ => false) (n := n) (fun s hs => by
    unfold ozI
    refine decide_eq_false (fun hc => ?_)
    have := ozM_ge (q := q) hs (show b s ≠ -1 by omega)
    omega)
  rw [e, ct_none]
theorem least_ex {p : Int → Prop} : ∀ (k : Nat) (x : Int), x.toNat ≤ k → 0 ≤ x → p x → ∃ y, 0 ≤ y ∧ y ≤ x ∧ p y ∧ ∀ z, 0 ≤ z → z < y → ¬ p z := by
  intro k
  induction k with
  | zero =>
    intro x h1 h2 hp
    exact ⟨x, h2, Int.le_refl x, hp, fun z h3 h4 => by omega⟩
  | succ k ih =>
    intro x h1 h2 hp
    refine Classical.byContradiction (fun hc => ?_)
    refine hc ⟨x, h2, Int.le_refl x, hp, fun z h3 h4 hz => hc ?_⟩
    obtain ⟨y, a, b, c, d⟩ := ih z (by omega) h3 hz
    exact ⟨y, a, by omega, c, d⟩
theorem oze_sp {s : Nat} (hQ : ozQ n P ρ q) (hs : s < n) : ozE n P ρ q b s (oze n P ρ q b s) ∧ oze n P ρ q b s ≤ ozM n q b + ρ := by
  have m0 : 0 ≤ ozM n q b := fmax_0 n
  have c : ozC n P ρ q b s (ozM n q b + ρ) := by
    refine ⟨fun t h1 _ => ?_, ?_⟩
    · rw [ozB_late hQ (by have := hQ.2.2.2.2.1; omega)]; have := hQ.2.2.1; omega
    · by_cases h : b (ozP s) = -1
      · exact Or.inl h
      · have := ozM_ge (q := q) (ozP_lt hQ.2.1 hs) h
        exact Or.inr (Or.inl (by omega))
  obtain ⟨y, y1, y2, y3, y4⟩ := least_ex (p := fun x => ozC n P ρ q b s x) (ozM n q b + ρ).toNat _ (Nat.le_refl _) (by have := hQ.2.2.2.2.1; omega) c
  have e := oze_eq (show ozE n P ρ q b s y from ⟨y1, y3, y4⟩)
  rw [e]
  exact ⟨⟨y1, y3, y4⟩, y2⟩
theorem ct_set {p w : Nat → Bool} {s : Nat} {n : Nat} (hs : s < n) (h0 : p s = false) (h : ∀ k, k ≠ s → w k = p k) : ax_ct w n = ax_ct p n + (bif w s then 1 else 0) := by
  induction n with
  | zero => omega
  | succ n ih =>
    have e1 : ax_ct w (n + 1) = bif w n then ax_ct w n + 1 else ax_ct w n := rfl
    have e2 : ax_ct p (n + 1) = bif p n then ax_ct p n + 1 else ax_ct p n := rfl
    rw [e1, e2]
    by_cases e : s = n
    · subst e
      rw [h0, ax_ct_cg (e := p) (fun k hk => h k (by omega))]
      cases w s <;> rfl
    · rw [ih (by omega), h n (by omega)]
      cases p n <;> cases w s <;> simp only [cond_true, cond_false] <;> omega
theorem ozB_set {s : Nat} {x t : Int} (hs : s < n) (h0 : b s = -1) (hx : 0 ≤ x) : ozB n q (am_set b s x) t = ozB n q b t + if x ≤ t ∧ t < x + q s then 1 else 0 := by
  unfold ozB
  rw [ct_set (p := ozI q b t) (w := ozI q (am_set b s x) t) hs (by unfold ozI; exact decide_eq_false (by omega)) (fun k hk => by unfold ozI; rw [am_stO hk])]
  congr 1
  unfold ozI
  rw [am_stS rfl]
  by_cases h : x ≤ t ∧ t < x + q s
  · rw [if_pos h, decide_eq_true ⟨hx, h⟩]; rfl
  · rw [if_neg h, decide_eq_false (fun hc => h hc.2)]; rfl
theorem ozM_set {s : Nat} {x : Int} (hs : s < n) (h0 : b s = -1) (hx : 0 ≤ x) : ozM n q (am_set b s x) = if ozM n q b < x + q s then x + q s else ozM n q b := by
  unfold ozM
  have A : ∀ n, s < n → am_fmax (fun k => if am_set b s x k = -1 then 0 else am_set b s x k + q k) n = if am_fmax (fun k => if b k = -1 then 0 else b k + q k) n < x + q s then x + q s else am_fmax (fun k => if b k = -1 then 0 else b k + q k) n := by
    intro n
    induction n with
    | zero => intro h; omega
    | succ n ih =>
      intro h
      have z := fmax_0 (f := fun k => if b k = -1 then 0 else b k + q k) n
      have e : ∀ f : Nat → Int, am_fmax f (n + 1) = if am_fmax f n < f n then f n else am_fmax f n := fun f => rfl
      rw [e, e]
      by_cases hn : s = n
      · subst hn
        rw [am_stS rfl, if_neg (show ¬ x = -1 by omega), if_pos h0, am_fmax_cg (g := fun k => if b k = -1 then 0 else b k + q k) (fun k hk => by rw [am_stO (by omega)])]
        (repeat' split) <;> omega
      · rw [ih (by omega), am_stO (show n ≠ s by omega)]
        generalize (if b n = -1 then 0 else b n + q n) = y
        (repeat' split) <;> omega
  exact A n hs
theorem ozC_set {s l : Nat} {x y : Int} (hs : s < n) (hl : l < n) (hsl : s ≠ l) (h0 : b l = -1) (hx : 0 ≤ x) (h : ozC n P ρ q (am_set b l x) s y) : ozC n P ρ q b s y := by
  refine ⟨fun t h1 h2 => ?_, ?_⟩
  · have := h.1 t h1 h2
    rw [ozB_set hl h0 hx] at this
    omega
  · by_cases e : ozP s = l
    · rw [e]; exact Or.inl h0
    · have := h.2
      rwa [am_stO e] at this
theorem ozV_set {s : Nat} {x : Int} (hQ : ozQ n P ρ q) (hV : ozV n P ρ q b) (hs : s < n) (h0 : b s = -1) (hx : 0 ≤ x) (hc : ozC n P ρ q b s x) : ozV n P ρ q (am_set b s x) := by
  refine ⟨fun k hk => ?_, fun t => ?_, fun k hk h1 h2 => ?_⟩
  · by_cases e : k = s
    · rw [am_stS e]; exact Or.inr hx
    · rw [am_stO e]; exact hV.1 k hk
  · rw [ozB_set hs h0 hx]
    have := hV.2.1 t
    split
    · rename_i h
      have := hc.1 t h.1 h.2
      omega
    · omega
  · by_cases e : k = s
    · subst e
      have ne := (ozP_p (s := k)).2
      rw [am_stO ne] at h2 ⊢
      rw [am_stS rfl] at h1 ⊢
      have := hc.2
      omega
    · by_cases e2 : ozP k = s
      · have pk : ozP s = k := by rw [← e2]; exact ozP_p.1
        have c2 := hc.2
        rw [pk] at c2
        rw [e2, am_stS rfl]
        rw [am_stO e] at h1 ⊢
        omega
      · rw [am_stO e, am_stO e2] at *
        exact hV.2.2 k hk h1 h2
theorem oze_mono {s l : Nat} {x : Int} (hQ : ozQ n P ρ q) (hs : s < n) (hl : l < n) (hsl : s ≠ l) (h0 : b l = -1) (hx : 0 ≤ x) : oze n P ρ q b s ≤ oze n P ρ q (am_set b l x) s := by
  have a := (oze_sp (b := b) hQ hs).1
  have c := (oze_sp (b := am_set b l x) hQ hs).1
  refine Classical.byContradiction (fun h => ?_)
  exact a.2.2 _ c.1 (by omega) (ozC_set hs hl hsl h0 hx c.2.1)
theorem oze_keep {s l : Nat} {x : Int} (hQ : ozQ n P ρ q) (hs : s < n) (hl : l < n) (hsl : s ≠ l) (h0 : b l = -1) (hx : 0 ≤ x) (h : ozC n P ρ q (am_set b l x) s (oze n P ρ q b s)) : oze n P ρ q (am_set b l x) s = oze n P ρ q b s := by
  have a := (oze_sp (b := b) hQ hs).1
  refine oze_eq ⟨a.1, h, fun y h1 h2 hc => a.2.2 y h1 h2 (ozC_set hs hl hsl h0 hx hc)⟩
/-- one that isn't in the way -/
theorem oze_way {s l : Nat} {x : Int} (hQ : ozQ n P ρ q) (hs : s < n) (hl : l < n) (hsl : s ≠ l) (h0 : b l = -1) (hx : 0 ≤ x) (hp : ozP s ≠ l) (h : oze n P ρ q b s + q s ≤ x ∨ x + q l ≤ oze n P ρ q b s) : oze n P ρ q (am_set b l x) s = oze n P ρ q b s := by
  have a := (oze_sp (b := b) hQ hs).1
  refine oze_keep hQ hs hl hsl h0 hx ⟨fun t h1 h2 => ?_, ?_⟩
  · rw [ozB_set hl h0 hx, if_neg (by omega)]
    exact a.2.1.1 t h1 h2
  · rw [am_stO hp]; exact a.2.1.2
/-- the two can change -/
theorem oze_chg {s l : Nat} (hQ : ozQ n P ρ q) (hs : s < n) (hl : l < n) (hsl : s ≠ l) (hs0 : b s = -1) (hl0 : b l = -1) (h : oze n P ρ q (am_set b l (oze n P ρ q b l)) s = oze n P ρ q b s) : oze n P ρ q (am_set b s (oze n P ρ q b s)) l = oze n P ρ q b l := by
  have A := (oze_sp (b := b) hQ hs).1
  have L := (oze_sp (b := b) hQ hl).1
  have C := (oze_sp (b := am_set b l (oze n P ρ q b l)) hQ hs).1
  rw [h] at C
  refine oze_keep hQ hl hs (fun e => hsl e.symm) hs0 A.1 ⟨fun t h1 h2 => ?_, ?_⟩
  · rw [ozB_set hs hs0 A.1]
    have l1 := L.2.1.1 t h1 h2
    split
    · rename_i hc
      have := C.2.1.1 t hc.1 hc.2
      rw [ozB_set hl hl0 L.1, if_pos ⟨h1, h2⟩] at this
      exact this
    · omega
  · by_cases e : ozP l = s
    · have pk : ozP s = l := by rw [← e]; exact ozP_p.1
      have c2 := C.2.1.2
      rw [pk, am_stS rfl] at c2
      have := L.1
      rw [e, am_stS rfl]
      omega
    · rw [am_stO e]; exact L.2.1.2
theorem set_comm {s l : Nat} {x y : Int} (h : s ≠ l) : am_set (am_set b s y) l x = am_set (am_set b l x) s y := by
  funext k
  by_cases e1 : k = l
  · rw [am_stS e1, am_stO (by omega), am_stS e1]
  · rw [am_stO e1]
    by_cases e2 : k = s
    · rw [am_stS e2, am_stS e2]
    · rw [am_stO e2, am_stO e2, am_stO e1]
end OZ

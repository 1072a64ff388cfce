/-! ONE: no order ends earlier than that -/
theorem iv_sum {A Q : Int} (hA : 0 ≤ A) (hQ : 0 ≤ Q) : ∀ T : Nat, am_fsum (fun t => if A ≤ (t : Int) ∧ (t : Int) < A + Q then 1 else 0) T = if (T : Int) ≤ A then 0 else if (T : Int) ≤ A + Q then (T : Int) - A else Q
  | 0 => by
    rw [if_pos (by omega)]; rfl
  | T + 1 => by
    rw [fsum_s, iv_sum hA hQ T]
    have c : (if A ≤ (T : Int) ∧ (T : Int) < A + Q then (1 : Int) else 0) = if A ≤ (T : Int) then (if (T : Int) < A + Q then 1 else 0) else 0 := by
      (repeat' split) <;> omega
    rw [c]
    (repeat' split) <;> omega
section OZ
variable {n P : Nat} {ρ : Int} {q b : Nat → Int}
theorem busy_sum {T : Nat} : ∀ m, (∀ s, s < m → 0 ≤ b s ∧ 0 ≤ q s ∧ b s + q s ≤ (T : Int)) → am_fsum (fun t => (ozB m q b (t : Int) : Int)) T = am_fsum q m
  | 0, _ => by
    exact fsum_z T
  | m + 1, h => by
    have ih := busy_sum (T := T) m (fun s hs => h s (by omega))
    have hm := h m (by omega)
    have i := iv_sum hm.1 hm.2.1 T
    have e : am_fsum (fun t => (ozB (m + 1) q b (t : Int) : Int)) T = am_fsum (fun t => (ozB m q b (t : Int) : Int) + if b m ≤ (t : Int) ∧ (t : Int) < b m + q m then 1 else 0) T := am_fsum_cg (fun t _ => by
      have c : ozB (m + 1) q b (t : Int) = bif ozI q b (t : Int) m then ozB m q b (t : Int) + 1 else ozB m q b (t : Int) := rfl
      rw [c]
      unfold ozI
      by_cases hc : b m ≤ (t : Int) ∧ (t : Int) < b m + q m
      · rw [if_pos hc, decide_eq_true ⟨hm.1, hc⟩]; rfl
      · rw [if_neg hc, decide_eq_false (fun h => hc h.2)]; simp)
    rw [e, am_fsum_add, ih, i, fsum_s]
    congr 1
    (repeat' split) <;> omega
theorem ozV_places (hQ : ozQ n P ρ q) (hV : ozV n P ρ q b) (hc : ∀ s, s < n → b s ≠ -1) : am_fsum q n ≤ (P : Int) * ozM n q b := by
  have m0 : 0 ≤ ozM n q b := fmax_0 n
  obtain ⟨T, hT⟩ : ∃ T : Nat, ozM n q b = (T : Int) := ⟨(ozM n q b).toNat, by omega⟩
  have s := busy_sum (T := T) (q := q) (b := b) n (fun s hs => by
    have a := hV.1 s hs
    have c := hc s hs
    have d := ozM_ge (q := q) hs c
    have e := hQ.2.2.2.2.2.2 s hs
    omega)
  rw [← s, hT, Int.mul_comm]
  have := am_fsum_le (f := fun t => (ozB n q b (t : Int) : Int)) (b := (P : Int)) (n := T) (fun t _ => by have := hV.2.1 (t : Int); omega)
  exact this.2
theorem ozV_long {s : Nat} (hV : ozV n P ρ q b) (hc : ∀ s, s < n → b s ≠ -1) (hs : s + 1 < n) (h2 : s % 2 = 0) : q s + q (s + 1) + ρ ≤ ozM n q b := by
  have p : ozP s = s + 1 := if_pos h2
  have v := hV.2.2 s (by omega) (hc s (by omega))
  rw [p] at v
  have v := v (hc (s + 1) hs)
  have a := ozM_ge (q := q) (show s < n by omega) (hc s (by omega))
  have c := ozM_ge (q := q) hs (hc (s + 1) hs)
  have d := hV.1 s (by omega)
  have e := hV.1 (s + 1) hs
  have := hc s (by omega)
  have := hc (s + 1) hs
  omega
end OZ
def ozq (W : Nat → Int) (s : Nat) : Int := W (8 + 3 * (s / 2) + s % 2)
theorem ozq_0 {W : Nat → Int} {j : Nat} : ozq W (2 * j) = W (8 + 3 * j) := by
  unfold ozq
  rw [show 8 + 3 * (2 * j / 2) + 2 * j % 2 = 8 + 3 * j by omega]
theorem ozq_1 {W : Nat → Int} {j : Nat} : ozq W (2 * j + 1) = W (8 + 3 * j + 1) := by
  unfold ozq
  rw [show 8 + 3 * ((2 * j + 1) / 2) + (2 * j + 1) % 2 = 8 + 3 * j + 1 by omega]
theorem ozq_sum {W : Nat → Int} : ∀ m, am_fsum (ozq W) (2 * m) = am_fsum (fun s => W (8 + 3 * s)) m + am_fsum (fun s => W (8 + 3 * s + 1)) m
  | 0 => rfl
  | m + 1 => by
    rw [show 2 * (m + 1) = 2 * m + 1 + 1 by omega, fsum_s, fsum_s, fsum_s, fsum_s, ozq_sum m, ozq_0, ozq_1]
    omega
theorem ozQ_W {W : Nat → Int} {P : Nat} (hk : wk W) (hP : W 0 = (P : Int)) (h4 : nS W ≤ 4) : ozQ (2 * nS W) P (W 1) (ozq W) := by
  have h0 := hk.1
  unfold wk0 at h0
  refine ⟨by omega, by omega, by omega, by omega, by omega, by omega, fun s hs => ?_⟩
  have h := hk.2.1 (s / 2) (by omega)
  unfold ozq
  rcases (show s % 2 = 0 ∨ s % 2 = 1 by omega) with e | e <;> rw [e]
  · exact ⟨h.1, h.2.1⟩
  · exact ⟨h.2.2.1, h.2.2.2.1⟩
theorem oz_least {W b : Nat → Int} {P : Nat} (hk : wk W) (hP : W 0 = (P : Int)) (h4 : nS W ≤ 4) (h1 : 1 ≤ nS W) (hV : ozV (2 * nS W) P (W 1) (ozq W) b) (hc : ∀ s, s < 2 * nS W → b s ≠ -1) : lonW W + W 1 ≤ ozM (2 * nS W) (ozq W) b ∧ bypW W ≤ ozM (2 * nS W) (ozq W) b := by
  have h0 := hk.1
  unfold wk0 at h0
  have hQ := ozQ_W hk hP h4
  constructor
  · have : lonW W ≤ ozM (2 * nS W) (ozq W) b - W 1 := by
      unfold lonW
      refine (am_fmax_le (b := ozM (2 * nS W) (ozq W) b - W 1) ?_ (fun j hj => ?_)).2
      · have l := ozV_long hV hc (s := 0) (by omega) rfl
        have a := hQ.2.2.2.2.2.2 0 (by omega)
        have c := hQ.2.2.2.2.2.2 (0 + 1) (by omega)
        omega
      · have l := ozV_long hV hc (s := 2 * j) (by omega) (by omega)
        rw [ozq_0, ozq_1] at l
        omega
    omega
  · have p := ozV_places hQ hV hc
    rw [ozq_sum] at p
    have e1 : am_fsum (fun s => W (8 + 3 * s)) (nS W) = totW W 0 := rfl
    have e2 : am_fsum (fun s => W (8 + 3 * s + 1)) (nS W) = totW W 1 := rfl
    rw [e1, e2] at p
    unfold bypW
    have : (totW W 0 + totW W 1 + W 0 - 1) / W 0 < ozM (2 * nS W) (ozq W) b + 1 := by
      refine Int.ediv_lt_of_lt_mul (by omega) ?_
      rw [Int.add_mul, Int.one_mul, Int.mul_comm, hP]
      omega
    omega

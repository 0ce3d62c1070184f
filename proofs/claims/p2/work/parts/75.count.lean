/-! how many orders there are: all of them keep within 18 -/
def fac : Nat → Nat
  | 0 => 1
  | n + 1 => (n + 1) * fac n
def prodN (f : Nat → Nat) : Nat → Nat
  | 0 => 1
  | n + 1 => prodN f n * f n
section CNT
variable {x : Nat → Nat}
theorem fac_pos : ∀ n, 0 < fac n
  | 0 => Nat.one_pos
  | n + 1 => Nat.mul_pos (Nat.succ_pos n) (fac_pos n)
theorem prodN_pos {f : Nat → Nat} (h : ∀ k, 0 < f k) : ∀ n, 0 < prodN f n
  | 0 => Nat.one_pos
  | n + 1 => Nat.mul_pos (prodN_pos h n) (h n)
theorem prodN_eq {f g : Nat → Nat} : ∀ n, (∀ k, k < n → f k = g k) → prodN f n = prodN g n
  | 0, _ => rfl
  | n + 1, h => by show prodN f n * f n = prodN g n * g n; rw [prodN_eq n (fun k hk => h k (by omega)), h n (by omega)]
theorem prodN_at {f g : Nat → Nat} {k a b : Nat} (h : ∀ j, j ≠ k → f j = g j) (hk : f k * a = g k * b) : ∀ n, k < n → prodN f n * a = prodN g n * b
  | 0, q => absurd q (Nat.not_lt_zero _)
  | n + 1, q => by
    show prodN f n * f n * a = prodN g n * g n * b
    by_cases e : k = n
    · subst e
      rw [prodN_eq k (fun j hj => h j (by omega)), Nat.mul_assoc, hk, Nat.mul_assoc]
    · have ih := prodN_at h hk n (by omega)
      rw [h n (Ne.symm e)]
      calc prodN f n * g n * a = prodN f n * a * g n := by simp only [Nat.mul_assoc, Nat.mul_comm, Nat.mul_left_comm]
        _ = prodN g n * b * g n := by rw [ih]
        _ = prodN g n * g n * b := by simp only [Nat.mul_assoc, Nat.mul_comm, Nat.mul_left_comm]
theorem sumN_at {f g : Nat → Nat} {k : Nat} (h : ∀ j, j ≠ k → f j = g j) (hk : f k = g k + 1) : ∀ n, k < n → sumN f n = sumN g n + 1
  | 0, q => absurd q (Nat.not_lt_zero _)
  | n + 1, q => by
    show sumN f n + f n = sumN g n + g n + 1
    by_cases e : k = n
    · subst e
      rw [sumN_eq k (fun j hj => h j (by omega)), hk]
      omega
    · have ih := sumN_at h hk n (by omega)
      rw [h n (Ne.symm e), ih]
      omega
theorem stp_dvd : ∀ k l, k ≤ l → ∃ M, stp x l = stp x k * M := by
  intro k l h
  induction l with
  | zero => exact ⟨1, by have : k = 0 := by omega
                         subst this; rw [Nat.mul_one]⟩
  | succ l ih =>
    by_cases e : k = l + 1
    · exact ⟨1, by subst e; rw [Nat.mul_one]⟩
    · obtain ⟨M, hM⟩ := ih (by omega)
      exact ⟨M * (x l + 1), by show stp x l * (x l + 1) = _; rw [hM, Nat.mul_assoc]⟩
theorem q_pred {q b : Nat} (hb : 0 < b) (h : 0 < q % b) : (q - 1) % b + 1 = q % b ∧ (q - 1) / b = q / b := by
  have e := Nat.div_add_mod q b
  have hl := Nat.mod_lt q hb
  generalize q % b = r at e h hl
  generalize q / b = t at e
  have e2 : q - 1 = b * t + (r - 1) := by omega
  rw [e2, Nat.mul_add_mod, Nat.mul_add_div hb, Nat.mod_eq_of_lt (by omega), Nat.div_eq_of_lt (by omega)]
  omega
theorem sub_div1 {n a : Nat} (ha : 0 < a) (h : a ≤ n) : (n - a) / a = n / a - 1 := by
  have := Nat.sub_mul_div n a 1
  rw [Nat.mul_one] at this
  exact this
theorem dg_lo {n j k : Nat} (hjk : j < k) (h : stp x k ≤ n) : dg x (n - stp x k) j = dg x n j := by
  obtain ⟨M, hM⟩ := stp_dvd (x := x) (j + 1) k hjk
  have e : stp x k = stp x j * ((x j + 1) * M) := by rw [hM]; show stp x j * (x j + 1) * M = _; rw [Nat.mul_assoc]
  rw [e] at h ⊢
  unfold dg
  rw [Nat.sub_mul_div]
  have h2 : (x j + 1) * M ≤ n / stp x j := (Nat.le_div_iff_mul_le (stp_pos x j)).mpr (by rw [Nat.mul_comm]; exact h)
  exact Nat.sub_mul_mod h2
theorem dg_at {n k : Nat} (h : 0 < dg x n k) : dg x n k = dg x (n - stp x k) k + 1 := by
  have hge := dg_pos h
  unfold dg at h ⊢
  rw [sub_div1 (stp_pos x k) hge]
  exact (q_pred (Nat.succ_pos _) h).1.symm
theorem dg_hi {n j k : Nat} (hjk : k < j) (h : 0 < dg x n k) : dg x (n - stp x k) j = dg x n j := by
  have hge := dg_pos h
  obtain ⟨M, hM⟩ := stp_dvd (x := x) (k + 1) j hjk
  have e : stp x j = stp x k * ((x k + 1) * M) := by rw [hM]; show stp x k * (x k + 1) * M = _; rw [Nat.mul_assoc]
  unfold dg at h ⊢
  rw [e, ← Nat.div_div_eq_div_mul, ← Nat.div_div_eq_div_mul, sub_div1 (stp_pos x k) hge, ← Nat.div_div_eq_div_mul, ← Nat.div_div_eq_div_mul, (q_pred (Nat.succ_pos _) h).2]
theorem dg_ne {n j k : Nat} (h : 0 < dg x n k) (hj : j ≠ k) : dg x n j = dg x (n - stp x k) j := by
  rcases Nat.lt_or_ge j k with q | q
  · exact (dg_lo q (dg_pos h)).symm
  · exact (dg_hi (by omega) h).symm
def Cp (x : Nat → Nat) (n : Nat) : Nat := prodN (fun k => fac (x k - dg x n k) * fac (dg x n k)) 8
def Dn (x : Nat → Nat) (n : Nat) : Nat := sumN (dg x n) 8
def Fx (x : Nat → Nat) : Nat := prodN (fun k => fac (x k)) 8
def QW (x : Nat → Nat) (n w : Nat) : Prop := w * Cp x n = fac (Dn x n) * Fx x
theorem Dn_at {n k : Nat} (hk : k < 8) (h : 0 < dg x n k) : Dn x n = Dn x (n - stp x k) + 1 := sumN_at (fun _ hj => dg_ne h hj) (dg_at h) 8 hk
theorem Cp_at {n k : Nat} (hk : k < 8) (h : 0 < dg x n k) : Cp x n * (x k - dg x n k + 1) = Cp x (n - stp x k) * dg x n k := by
  refine prodN_at (k := k) (fun j hj => ?_) ?_ 8 hk
  · show fac (x j - dg x n j) * fac (dg x n j) = _
    rw [dg_ne h hj]
  · show fac (x k - dg x n k) * fac (dg x n k) * (x k - dg x n k + 1) = fac (x k - dg x (n - stp x k) k) * fac (dg x (n - stp x k) k) * dg x n k
    have e := dg_at h
    have hle := dg_le (x := x) (n := n) (k := k)
    generalize dg x (n - stp x k) k = d at e
    rw [e] at hle ⊢
    have e1 : x k - d = (x k - (d + 1)) + 1 := by omega
    rw [e1]
    show _ = (x k - (d + 1) + 1) * fac (x k - (d + 1)) * fac d * (d + 1)
    show fac (x k - (d + 1)) * ((d + 1) * fac d) * (x k - (d + 1) + 1) = _
    simp only [Nat.mul_assoc, Nat.mul_comm, Nat.mul_left_comm]
def ACC (x : Nat → Nat) (n k w : Nat) : Prop := w * Cp x n = sumN (dg x n) k * (fac (Dn x n - 1) * Fx x)
theorem ACC.zero {n : Nat} : ACC x n 0 0 := by unfold ACC; simp [sumN]
theorem ACC.skip {n k w : Nat} (h : ACC x n k w) (hd : dg x n k = 0) : ACC x n (k + 1) w := by
  unfold ACC at h ⊢
  show _ = (sumN (dg x n) k + dg x n k) * _
  rw [hd, Nat.add_zero]; exact h
theorem ACC.step {n k w v : Nat} (hk : k < 8) (h : ACC x n k w) (hd : 0 < dg x n k) (hv : QW x (n - stp x k) v) : ACC x n (k + 1) (w + v * (x k - dg x n k + 1)) := by
  unfold ACC at h ⊢
  unfold QW at hv
  show _ = (sumN (dg x n) k + dg x n k) * _
  have e1 := Cp_at hk hd
  have e2 := Dn_at hk hd
  rw [Nat.add_mul, h, Nat.add_mul]
  congr 1
  rw [e2, Nat.add_sub_cancel, Nat.mul_assoc, Nat.mul_comm (x k - dg x n k + 1), e1, ← Nat.mul_assoc, hv]
  simp only [Nat.mul_assoc, Nat.mul_comm, Nat.mul_left_comm]
theorem zero_of {n : Nat} (hn : n < stp x 8) (h : ∀ k, k < 8 → dg x n k = 0) : n = 0 := by
  have key : ∀ k, k ≤ 8 → n % stp x k = 0 := by
    intro k
    induction k with
    | zero => intro _; show n % 1 = 0; exact Nat.mod_one n
    | succ k ih =>
      intro hk
      show n % (stp x k * (x k + 1)) = 0
      have := h k (by omega)
      unfold dg at this
      rw [Nat.mod_mul, ih (by omega), this, Nat.mul_zero]
  have := key 8 (Nat.le_refl _)
  rw [Nat.mod_eq_of_lt hn] at this
  exact this
theorem ACC.fin {n K w : Nat} (hn : n < stp x 8) (h1 : 1 ≤ n) (hK : K ≤ 8) (hz : ∀ k, k < 8 → K ≤ k → x k = 0) (h : ACC x n K w) : QW x n w := by
  have hd : ∀ l, K ≤ l → l ≤ 8 → sumN (dg x n) l = sumN (dg x n) K := by
    intro l
    induction l with
    | zero => intro a _; have : K = 0 := by omega
              rw [this]
    | succ l ih =>
      intro a b
      by_cases e : K = l + 1
      · rw [e]
      · show sumN (dg x n) l + dg x n l = _
        have := dg_le (x := x) (n := n) (k := l)
        rw [hz l (by omega) (by omega)] at this
        rw [ih (by omega) (by omega)]; omega
  have hD : sumN (dg x n) K = Dn x n := (hd 8 hK (Nat.le_refl _)).symm
  have hp : 0 < Dn x n := by
    rcases Nat.eq_zero_or_pos (Dn x n) with q | q
    · have := zero_of hn (fun k hk => by have := sumN_mem (f := dg x n) 8 k hk; unfold Dn at q; omega)
      omega
    · exact q
  unfold ACC at h
  unfold QW
  rw [h, hD, ← Nat.mul_assoc]
  congr 1
  obtain ⟨d, hd2⟩ : ∃ d, Dn x n = d + 1 := ⟨Dn x n - 1, by omega⟩
  rw [hd2]; rfl
theorem dg_zero {k : Nat} : dg x 0 k = 0 := by unfold dg; rw [Nat.zero_div, Nat.zero_mod]
theorem QW.zero : QW x 0 1 := by
  unfold QW
  have e1 : Dn x 0 = 0 := by
    unfold Dn
    rw [sumN_eq (g := fun _ => 0) 8 (fun k _ => dg_zero)]
    rfl
  have e2 : Cp x 0 = Fx x := prodN_eq 8 (fun k _ => by rw [dg_zero]; show fac (x k - 0) * 1 = fac (x k); rw [Nat.mul_one, Nat.sub_zero])
  rw [e1, e2]; rfl
theorem dg_last {k : Nat} (hk : k < 8) : dg x (stp x 8 - 1) k = x k := by
  obtain ⟨M, hM⟩ := stp_dvd (x := x) (k + 1) 8 hk
  have e : stp x 8 = stp x k * ((x k + 1) * M) := by rw [hM]; show stp x k * (x k + 1) * M = _; rw [Nat.mul_assoc]
  have hp := stp_pos x 8
  have ha := stp_pos x k
  have hM1 : 0 < M := by
    rcases Nat.eq_zero_or_pos M with q | q
    · rw [e, q, Nat.mul_zero, Nat.mul_zero] at hp; omega
    · exact q
  have gen : ∀ a c : Nat, 0 < a → 0 < c → (a * c - 1) / a = c - 1 ∧ (a * c - 1) % a = a - 1 := by
    intro a c h1 h2
    obtain ⟨d, rfl⟩ : ∃ d, c = d + 1 := ⟨c - 1, by omega⟩
    have : a * (d + 1) - 1 = a * d + (a - 1) := by rw [Nat.mul_add, Nat.mul_one]; omega
    rw [this, Nat.mul_add_div h1, Nat.mul_add_mod, Nat.div_eq_of_lt (by omega), Nat.mod_eq_of_lt (by omega)]
    omega
  unfold dg
  rw [e, (gen _ _ ha (Nat.mul_pos (Nat.succ_pos _) hM1)).1, (gen _ _ (Nat.succ_pos _) hM1).2]
  rfl
theorem QW.last {w : Nat} (h : QW x (stp x 8 - 1) w) : w = fac (sumN x 8) := by
  unfold QW at h
  have e1 : Dn x (stp x 8 - 1) = sumN x 8 := sumN_eq 8 (fun k hk => dg_last hk)
  have e2 : Cp x (stp x 8 - 1) = Fx x := prodN_eq 8 (fun k hk => by
    rw [dg_last hk, Nat.sub_self]
    show 1 * fac (x k) = fac (x k)
    rw [Nat.one_mul])
  rw [e1, e2] at h
  exact Nat.eq_of_mul_eq_mul_right (prodN_pos (fun k => fac_pos _) 8) h
end CNT


/-! the class: an equation told by two numbers -/
def z8 : List Nat → Nat
  | [] => 0
  | x :: l => x + 8 * z8 l
theorem z8_app (x : Nat) : ∀ l : List Nat, z8 (l ++ [x]) = z8 l + x * 8 ^ l.length
  | [] => by simp [z8]
  | y :: l => by
    rw [List.cons_append, z8, z8_app x l, z8, List.length_cons, Nat.pow_succ]
    have : x * (8 ^ l.length * 8) = 8 * (x * 8 ^ l.length) := by rw [← Nat.mul_assoc, Nat.mul_comm]
    omega
theorem z8_lt : ∀ l : List Nat, (∀ x ∈ l, x < 8) → z8 l < 8 ^ l.length
  | [], _ => by simp [z8]
  | y :: l, h => by
    have ih := z8_lt l (fun x hx => h x (List.mem_cons_of_mem _ hx))
    have hy := h y List.mem_cons_self
    rw [z8, List.length_cons, Nat.pow_succ]
    omega
theorem z8_dig : ∀ (l : List Nat) (n : Nat), (∀ x ∈ l, x < 8) → n < l.length → z8 l / 8 ^ n % 8 = l.getD n 0
  | [], n, _, h => by simp at h
  | y :: l, 0, h, _ => by
    have hy := h y List.mem_cons_self
    rw [z8]
    show (y + 8 * z8 l) / 8 ^ 0 % 8 = y
    rw [Nat.pow_zero, Nat.div_one]; omega
  | y :: l, n + 1, h, hn => by
    have hy := h y List.mem_cons_self
    have ih := z8_dig l n (fun x hx => h x (List.mem_cons_of_mem _ hx)) (by rw [List.length_cons] at hn; omega)
    rw [z8, Nat.pow_succ, Nat.mul_comm (8 ^ n) 8, ← Nat.div_div_eq_div_mul, show (y + 8 * z8 l) / 8 = z8 l by omega, ih]
    rfl
theorem z8_2 (n : Nat) : 8 ^ n = 2 ^ (3 * n) := by rw [show (8 : Nat) = 2 ^ 3 from rfl, ← Nat.pow_mul]
theorem zor_lo {a x k : Nat} (h : a < 2 ^ k) : a ||| x * 2 ^ k = a + x * 2 ^ k := by
  rw [Nat.mul_comm, Nat.or_comm, ← Nat.two_pow_add_eq_or_of_lt h, Nat.add_comm]
theorem zor_hi {a b c k m : Nat} (ha : a < 2 ^ k) (hc : a + c * 2 ^ k < 2 ^ m) : (2 ^ m * b + a) ||| c * 2 ^ k = 2 ^ m * b + a + c * 2 ^ k := by
  have h1 : a < 2 ^ m := by omega
  rw [Nat.two_pow_add_eq_or_of_lt h1, Nat.or_assoc, zor_lo ha, ← Nat.two_pow_add_eq_or_of_lt hc, ← Nat.two_pow_add_eq_or_of_lt h1]
  omega
/-- the two numbers of an equation -/
def znr (s : zSt) : Nat := z8 ((s.1 ++ s.2).take 20)
def zfr (s : zSt) : Nat := z8 ((s.1 ++ s.2).drop 20) + 4096 * s.1.length + 131072 * s.2.length
theorem zvS.b8 {s : zSt} (h : zvS s) : zb8 s.1 ∧ zb8 s.2 := ⟨h.1, h.2.1⟩
theorem zvS.all {s : zSt} (h : zvS s) : (∀ x ∈ s.1 ++ s.2, x < 8) ∧ (s.1 ++ s.2).length ≤ 24 := by
  refine ⟨fun x hx => ?_, by rw [List.length_append]; exact h.2.2.1⟩
  rcases List.mem_append.mp hx with q | q
  · exact (h.1 x q).1
  · exact (h.2.1 x q).1
theorem zdr_lt {s : zSt} (h : zvS s) : z8 ((s.1 ++ s.2).drop 20) < 4096 := by
  obtain ⟨h1, h2⟩ := h.all
  have h3 := z8_lt ((s.1 ++ s.2).drop 20) (fun x hx => h1 x (List.mem_of_mem_drop hx))
  have h4 : ((s.1 ++ s.2).drop 20).length ≤ 4 := by rw [List.length_drop]; omega
  have h5 : 8 ^ ((s.1 ++ s.2).drop 20).length ≤ 8 ^ 4 := Nat.pow_le_pow_right (by decide) h4
  omega
theorem zfr_len {s : zSt} (h : zvS s) : zfr s / 4096 % 32 = s.1.length ∧ zfr s / 131072 % 32 = s.2.length ∧ zfr s < 4194304 := by
  have h1 := zdr_lt h
  have h2 := h.2.2.1
  unfold zfr
  omega
theorem znr_lt {s : zSt} (h : zvS s) : znr s < 1152921504606846976 := by
  obtain ⟨h1, h2⟩ := h.all
  have h3 := z8_lt ((s.1 ++ s.2).take 20) (fun x hx => h1 x (List.mem_of_mem_take hx))
  have h4 : ((s.1 ++ s.2).take 20).length ≤ 20 := by rw [List.length_take]; omega
  have h5 : 8 ^ ((s.1 ++ s.2).take 20).length ≤ 8 ^ 20 := Nat.pow_le_pow_right (by decide) h4
  have h6 : 8 ^ 20 = 1152921504606846976 := by decide +kernel
  unfold znr
  omega
theorem znr_dig {s : zSt} (h : zvS s) {n : Nat} (hn : n < (s.1 ++ s.2).length) (h20 : n < 20) : znr s / 2 ^ (3 * n) % 8 = (s.1 ++ s.2).getD n 0 := by
  obtain ⟨h1, h2⟩ := h.all
  unfold znr
  rw [← z8_2, z8_dig _ n (fun x hx => h1 x (List.mem_of_mem_take hx)) (by rw [List.length_take]; omega)]
  rw [List.getD_eq_getElem?_getD, List.getD_eq_getElem?_getD, List.getElem?_take, if_pos h20]
theorem zfr_dig {s : zSt} (h : zvS s) {n : Nat} (hn : n < (s.1 ++ s.2).length) (h20 : 20 ≤ n) : zfr s / 2 ^ (3 * (n - 20)) % 8 = (s.1 ++ s.2).getD n 0 := by
  obtain ⟨h1, h2⟩ := h.all
  have h3 := z8_dig ((s.1 ++ s.2).drop 20) (n - 20) (fun x hx => h1 x (List.mem_of_mem_drop hx)) (by rw [List.length_drop]; omega)
  have h4 : ((s.1 ++ s.2).drop 20).getD (n - 20) 0 = (s.1 ++ s.2).getD n 0 := by
    rw [List.getD_eq_getElem?_getD, List.getD_eq_getElem?_getD, List.getElem?_drop, show 20 + (n - 20) = n by omega]
  rw [h4] at h3
  rw [← h3, z8_2]
  obtain ⟨d, hd⟩ : ∃ d, d = n - 20 := ⟨_, rfl⟩
  have hd3 : d < 4 := by omega
  obtain ⟨z, hz⟩ : ∃ z, z = z8 ((s.1 ++ s.2).drop 20) := ⟨_, rfl⟩
  unfold zfr
  rw [← hd, ← hz]
  rcases (show d = 0 ∨ d = 1 ∨ d = 2 ∨ d = 3 by omega) with rfl | rfl | rfl | rfl <;> omega
theorem zpk_inj {s s' : zSt} (h : zvS s) (h' : zvS s') (e1 : znr s = znr s') (e2 : zfr s = zfr s') : s = s' := by
  obtain ⟨a1, a2, _⟩ := zfr_len h
  obtain ⟨b1, b2, _⟩ := zfr_len h'
  rw [e2] at a1 a2
  have l1 : s.1.length = s'.1.length := by omega
  have l2 : s.2.length = s'.2.length := by omega
  have la : (s.1 ++ s.2).length = (s'.1 ++ s'.2).length := by rw [List.length_append, List.length_append]; omega
  have key : s.1 ++ s.2 = s'.1 ++ s'.2 := by
    apply List.ext_getElem la
    intro n h1 h2
    rw [← zgd_el h1, ← zgd_el h2]
    rcases Nat.lt_or_ge n 20 with c | c
    · rw [← znr_dig h h1 c, ← znr_dig h' h2 c, e1]
    · rw [← zfr_dig h h1 c, ← zfr_dig h' h2 c, e2]
  obtain ⟨k1, k2⟩ := List.append_inj key l1
  exact Prod.ext k1 k2
theorem zfr_0 {s : zSt} : zfr s = 0 ↔ s = ([], []) := by
  constructor
  · intro h
    unfold zfr at h
    have h1 : s.1.length = 0 := by omega
    have h2 : s.2.length = 0 := by omega
    exact Prod.ext (List.length_eq_zero_iff.mp h1) (List.length_eq_zero_iff.mp h2)
  · intro h; subst h; rfl
/-! packing -/
section XPK2
variable {L : List Nat} {A B : List Nat} {t : Nat}
/-- n items are told -/
def zpkN (l : List Nat) (n : Nat) : Nat := z8 ((l.take n).take 20)
def zpkF (l : List Nat) (n b : Nat) : Nat := z8 ((l.take n).drop 20) + 4096 * b
theorem zpkN_lo {l : List Nat} {n : Nat} (hl : ∀ x ∈ l, x < 8) (hn : n < l.length) (h : n < 20) : zpkN l n ||| l.getD n 0 * 2 ^ (3 * n) = zpkN l (n + 1) ∧ zpkN l n < 2 ^ (3 * n) := by
  have e1 : (l.take n).take 20 = l.take n := List.take_of_length_le (by rw [List.length_take]; omega)
  have e2 : (l.take (n + 1)).take 20 = l.take (n + 1) := List.take_of_length_le (by rw [List.length_take]; omega)
  have e3 : (l.take n).length = n := by rw [List.length_take]; omega
  have hlt := z8_lt (l.take n) (fun x hx => hl x (List.mem_of_mem_take hx))
  rw [e3, z8_2] at hlt
  unfold zpkN
  rw [e1, e2]
  refine ⟨?_, hlt⟩
  rw [zor_lo hlt, ztk_at hn, z8_app, e3, z8_2]
theorem zpkN_hi {l : List Nat} {n : Nat} (h : 20 ≤ n) : zpkN l (n + 1) = zpkN l n := by
  unfold zpkN
  rw [List.take_take, List.take_take, show min 20 (n + 1) = 20 by omega, show min 20 n = 20 by omega]
theorem zpkF_lo {l : List Nat} {n b : Nat} (h : n < 20) : zpkF l (n + 1) b = zpkF l n b := by
  unfold zpkF
  rw [List.drop_of_length_le (by rw [List.length_take]; omega), List.drop_of_length_le (by rw [List.length_take]; omega)]
theorem zpkF_hi {l : List Nat} {n b : Nat} (hl : ∀ x ∈ l, x < 8) (hn : n < l.length) (h : 20 ≤ n) (h24 : l.length ≤ 24) : zpkF l n b ||| l.getD n 0 * 2 ^ (3 * (n - 20)) = zpkF l (n + 1) b := by
  have e3 : (l.take n).length = n := by rw [List.length_take]; omega
  have e4 : (l.take (n + 1)).drop 20 = (l.take n).drop 20 ++ [l.getD n 0] := by
    rw [ztk_at hn, List.drop_append_of_le_length (by omega)]
  have e5 : ((l.take n).drop 20).length = n - 20 := by rw [List.length_drop, e3]
  have hlt := z8_lt ((l.take n).drop 20) (fun x hx => hl x (List.mem_of_mem_take (List.mem_of_mem_drop hx)))
  rw [e5, z8_2] at hlt
  have hx : l.getD n 0 < 8 := by rw [zgd_el hn]; exact hl _ (List.getElem_mem hn)
  have hs : z8 ((l.take n).drop 20) + l.getD n 0 * 2 ^ (3 * (n - 20)) < 2 ^ 12 := by
    have h1 : l.getD n 0 * 2 ^ (3 * (n - 20)) ≤ 7 * 2 ^ (3 * (n - 20)) := Nat.mul_le_mul_right _ (by omega)
    have h2 : 2 ^ (3 * (n - 20)) ≤ 2 ^ 9 := Nat.pow_le_pow_right (by decide) (by omega)
    omega
  unfold zpkF
  rw [e4, z8_app, e5, z8_2]
  rw [show z8 ((l.take n).drop 20) + 4096 * b = 2 ^ 12 * b + z8 ((l.take n).drop 20) by omega, zor_hi hlt hs]
  omega
theorem zpkF_lt {l : List Nat} {n b : Nat} (hl : ∀ x ∈ l, x < 8) (h24 : l.length ≤ 24) : zpkF l n b < 4096 * b + 4096 := by
  have hlt := z8_lt ((l.take n).drop 20) (fun x hx => hl x (List.mem_of_mem_take (List.mem_of_mem_drop hx)))
  have h1 : ((l.take n).drop 20).length ≤ 4 := by rw [List.length_drop, List.length_take]; omega
  have h5 : 8 ^ ((l.take n).drop 20).length ≤ 8 ^ 4 := Nat.pow_le_pow_right (by decide) h1
  unfold zpkF
  omega
end XPK2


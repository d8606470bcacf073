/-! chains: an equation on its way, as two rows of items -/
abbrev zSt : Type := List Nat × List Nat
def zcp : List Nat → List Nat → Nat
  | [], _ => 0
  | _ :: _, [] => 0
  | a :: A, b :: B => if a = b then zcp A B + 1 else 0
theorem zcp_sp : ∀ (A B : List Nat), zcp A B ≤ A.length ∧ zcp A B ≤ B.length ∧ (∀ i, i < zcp A B → A.getD i 0 = B.getD i 0) ∧ (zcp A B = A.length ∨ zcp A B = B.length ∨ A.getD (zcp A B) 0 ≠ B.getD (zcp A B) 0)
  | [], B => ⟨Nat.zero_le _, Nat.zero_le _, fun i h => absurd h (Nat.not_lt_zero i), Or.inl rfl⟩
  | _ :: _, [] => ⟨Nat.zero_le _, Nat.zero_le _, fun i h => absurd h (Nat.not_lt_zero i), Or.inr (Or.inl rfl)⟩
  | a :: A, b :: B => by
    obtain ⟨h1, h2, h3, h4⟩ := zcp_sp A B
    by_cases c : a = b
    · have e : zcp (a :: A) (b :: B) = zcp A B + 1 := by rw [zcp, if_pos c]
      rw [e]
      refine ⟨by simpa using h1, by simpa using h2, fun i hi => ?_, ?_⟩
      · cases i with
        | zero => simpa using c
        | succ i => simpa using h3 i (by omega)
      · simpa using h4
    · have e : zcp (a :: A) (b :: B) = 0 := by rw [zcp, if_neg c]
      rw [e]
      exact ⟨Nat.zero_le _, Nat.zero_le _, fun i h => absurd h (Nat.not_lt_zero i), Or.inr (Or.inr (by simpa using c))⟩
theorem zcp_un {A B : List Nat} {n : Nat} (h1 : n ≤ A.length) (h2 : n ≤ B.length) (h3 : ∀ i, i < n → A.getD i 0 = B.getD i 0) (h4 : n = A.length ∨ n = B.length ∨ A.getD n 0 ≠ B.getD n 0) : n = zcp A B := by
  obtain ⟨k1, k2, k3, k4⟩ := zcp_sp A B
  rcases Nat.lt_trichotomy n (zcp A B) with c | c | c
  · rcases h4 with h | h | h
    · omega
    · omega
    · exact absurd (k3 n c) h
  · exact c
  · rcases k4 with h | h | h
    · omega
    · omega
    · exact absurd (h3 _ c) h
def zsk (s : zSt) : zSt := (s.1.drop (zcp s.1 s.2), s.2.drop (zcp s.1 s.2))
def zhd : List Nat → Int
  | [] => -1
  | a :: _ => a
theorem zhd_at (A : List Nat) : zhd A = if 0 < A.length then ((A.getD 0 0 : Nat) : Int) else -1 := by
  cases A <;> simp [zhd]
/-- how many puttings, the unknown, the item ahead of it (-1: it is put nothing) -/
def zqn (a b : Int) : Nat := if 3 < a ∧ 3 < b then 4 else if ¬ 3 < a ∧ ¬ 3 < b then 0 else if a = -1 ∨ b = -1 then 1 else 2
def zpu (a b : Int) (k : Nat) : Int := if 3 < a ∧ 3 < b then (if k = 0 ∨ k = 2 then a else b) else if 3 < a then a else b
def zpi (a b : Int) (k : Nat) : Int := if 3 < a ∧ 3 < b then (if k < 2 then -1 else if k = 2 then b else a) else if k = 0 then -1 else if 3 < a then b else a
def zpt (u p : Int) : List Nat → List Nat
  | [] => []
  | x :: A => if ((x : Nat) : Int) = u then (if p = -1 then zpt u p A else p.toNat :: x :: zpt u p A) else x :: zpt u p A
def znx (s : zSt) (k : Nat) : zSt := zsk (zpt (zpu (zhd s.1) (zhd s.2) k) (zpi (zhd s.1) (zhd s.2) k) s.1, zpt (zpu (zhd s.1) (zhd s.2) k) (zpi (zhd s.1) (zhd s.2) k) s.2)
/-- the unknowns of a row, as bits -/
def znf (b : Nat) : List Nat → Nat
  | [] => b
  | x :: A => znf (if 3 < x then b ||| 2 ^ (x - 4) else b) A
theorem znf_app : ∀ (A B : List Nat) (b : Nat), znf b (A ++ B) = znf (znf b A) B
  | [], B, b => rfl
  | x :: A, B, b => by rw [List.cons_append, znf, znf, znf_app A B]
def znm (s : zSt) : Nat := znf (znf 0 s.1) s.2
theorem znf_lt : ∀ (A : List Nat) (b : Nat), (∀ x ∈ A, x < 8) → b < 16 → znf b A < 16
  | [], b, _, h => h
  | x :: A, b, hA, h => by
    rw [znf]
    refine znf_lt A _ (fun y hy => hA y (List.mem_cons_of_mem _ hy)) ?_
    have hx := hA x List.mem_cons_self
    split
    · have h2 : 2 ^ (x - 4) < 2 ^ 4 := Nat.pow_lt_pow_right (by decide) (by omega)
      exact Nat.or_lt_two_pow (n := 4) h h2
    · exact h
def zan2 (a b : Nat) : Nat := a - (a &&& b)
/-- what the putting frees -/
def zfv (s : zSt) (k : Nat) : Nat := if zpi (zhd s.1) (zhd s.2) k = -1 then zan2 (zan2 (znm s) (znm (znx s k))) (2 ^ ((zpu (zhd s.1) (zhd s.2) k).toNat - 4)) else zan2 (znm s) (znm (znx s k))
def zvS (s : zSt) : Prop := (∀ x ∈ s.1, x < 8 ∧ x ≠ 3) ∧ (∀ x ∈ s.2, x < 8 ∧ x ≠ 3) ∧ s.1.length + s.2.length ≤ 24 ∧ (∀ u, 4 ≤ u → s.1.count u + s.2.count u ≤ 2) ∧ zcp s.1 s.2 = 0
/-! rows with an unknown put -/
theorem zpt_len {u : Nat} {p : Int} (hp : p ≠ -1) : ∀ A : List Nat, (zpt u p A).length = A.length + A.count u
  | [] => rfl
  | x :: A => by
    have ih := zpt_len (u := u) hp A
    rw [zpt]
    by_cases c : x = u
    · subst c
      rw [if_pos rfl, if_neg hp, List.count_cons_self]
      simp only [List.length_cons]; omega
    · rw [if_neg (by omega), List.count_cons_of_ne (by omega)]
      simp only [List.length_cons]; omega
theorem zpt_lenN {u : Nat} : ∀ A : List Nat, (zpt u (-1) A).length + A.count u = A.length
  | [] => rfl
  | x :: A => by
    have ih := zpt_lenN (u := u) A
    rw [zpt]
    by_cases c : x = u
    · subst c
      rw [if_pos rfl, if_pos rfl, List.count_cons_self]
      simp only [List.length_cons]; omega
    · rw [if_neg (by omega), List.count_cons_of_ne (by omega)]
      simp only [List.length_cons]; omega
theorem zpt_cnt {u v p : Nat} : ∀ A : List Nat, (zpt u p A).count v = A.count v + (if v = p then A.count u else 0)
  | [] => by simp [zpt]
  | x :: A => by
    have ih := zpt_cnt (u := u) (v := v) (p := p) A
    rw [zpt]
    by_cases c : x = u
    · rw [if_pos (by omega), if_neg (by omega), Int.toNat_natCast]
      simp only [List.count_cons, beq_iff_eq, ih]
      rw [if_pos c]
      by_cases e : v = p
      · rw [if_pos e, if_pos e, if_pos e.symm]
        omega
      · have e' : ¬ p = v := fun w => e w.symm
        rw [if_neg e, if_neg e, if_neg e']
        omega
    · rw [if_neg (by omega)]
      simp only [List.count_cons, beq_iff_eq, ih]
      rw [if_neg c, Nat.add_zero]
      omega
theorem zpt_cntN {u v : Nat} : ∀ A : List Nat, (zpt u (-1) A).count v ≤ A.count v
  | [] => Nat.le_refl _
  | x :: A => by
    have ih := zpt_cntN (u := u) (v := v) A
    rw [zpt]
    by_cases c : x = u
    · subst c
      rw [if_pos rfl, if_pos rfl]
      simp only [List.count_cons]; omega
    · rw [if_neg (by omega)]
      simp only [List.count_cons]; omega
theorem zpt_mem {u : Nat} {p : Int} {y : Nat} : ∀ A : List Nat, y ∈ zpt u p A → y ∈ A ∨ (p ≠ -1 ∧ y = p.toNat)
  | [], h => absurd h (by simp [zpt])
  | x :: A, h => by
    rw [zpt] at h
    split at h
    · split at h
      · rcases zpt_mem A h with q | q
        · exact Or.inl (List.mem_cons_of_mem _ q)
        · exact Or.inr q
      · rename_i hp
        rcases List.mem_cons.mp h with q | q
        · exact Or.inr ⟨hp, q⟩
        · rcases List.mem_cons.mp q with q | q
          · exact Or.inl (by rw [q]; exact List.mem_cons_self)
          · rcases zpt_mem A q with q | q
            · exact Or.inl (List.mem_cons_of_mem _ q)
            · exact Or.inr q
    · rcases List.mem_cons.mp h with q | q
      · exact Or.inl (by rw [q]; exact List.mem_cons_self)
      · rcases zpt_mem A q with q | q
        · exact Or.inl (List.mem_cons_of_mem _ q)
        · exact Or.inr q
/-! the struck rows -/
theorem zcp_drop : ∀ (A B : List Nat), zcp (A.drop (zcp A B)) (B.drop (zcp A B)) = 0
  | [], B => by simp [zcp]
  | _ :: _, [] => by simp [zcp]
  | a :: A, b :: B => by
    by_cases c : a = b
    · have e : zcp (a :: A) (b :: B) = zcp A B + 1 := by rw [zcp, if_pos c]
      rw [e, List.drop_succ_cons, List.drop_succ_cons]
      exact zcp_drop A B
    · have e : zcp (a :: A) (b :: B) = 0 := by rw [zcp, if_neg c]
      rw [e, List.drop_zero, List.drop_zero]; exact e
theorem zsk_cnt (v : Nat) : ∀ (A B : List Nat), ∃ c, A.count v = c + (A.drop (zcp A B)).count v ∧ B.count v = c + (B.drop (zcp A B)).count v
  | [], B => ⟨0, by simp [zcp], by simp [zcp]⟩
  | _ :: _, [] => ⟨0, by simp [zcp], by simp [zcp]⟩
  | a :: A, b :: B => by
    by_cases c : a = b
    · have e : zcp (a :: A) (b :: B) = zcp A B + 1 := by rw [zcp, if_pos c]
      obtain ⟨n, h1, h2⟩ := zsk_cnt v A B
      rw [e, List.drop_succ_cons, List.drop_succ_cons]
      subst c
      refine ⟨n + (if a = v then 1 else 0), ?_, ?_⟩
      · simp only [List.count_cons, beq_iff_eq]; omega
      · simp only [List.count_cons, beq_iff_eq]; omega
    · have e : zcp (a :: A) (b :: B) = 0 := by rw [zcp, if_neg c]
      rw [e]
      exact ⟨0, by simp, by simp⟩
theorem zsk_v {A B : List Nat} (h1 : ∀ x ∈ A, x < 8 ∧ x ≠ 3) (h2 : ∀ x ∈ B, x < 8 ∧ x ≠ 3) (h3 : A.length + B.length ≤ 24 + 2 * zcp A B) (h4 : ∀ u, 4 ≤ u → (A.drop (zcp A B)).count u + (B.drop (zcp A B)).count u ≤ 2) : zvS (zsk (A, B)) := by
  obtain ⟨k1, k2, _, _⟩ := zcp_sp A B
  refine ⟨fun x hx => h1 x (List.mem_of_mem_drop hx), fun x hx => h2 x (List.mem_of_mem_drop hx), ?_, h4, zcp_drop A B⟩
  show (A.drop (zcp A B)).length + (B.drop (zcp A B)).length ≤ 24
  rw [List.length_drop, List.length_drop]; omega
/-- a putting makes rows of the kind again -/
theorem zvS_ahead {A B : List Nat} {a b : Nat} (h : zvS (a :: A, b :: B)) (u p : Nat) (hup : (u = a ∧ p = b) ∨ (u = b ∧ p = a)) (hu : 3 < u) : zvS (zsk (zpt u p (a :: A), zpt u p (b :: B))) := by
  obtain ⟨h1, h2, h3, h4, h5⟩ := h
  have hab : a ≠ b := fun e => by
    have e2 : zcp (a :: A) (b :: B) = zcp A B + 1 := by rw [zcp, if_pos e]
    have h5 : zcp (a :: A) (b :: B) = 0 := h5
    omega
  have h1 : ∀ x ∈ a :: A, x < 8 ∧ x ≠ 3 := h1
  have h2 : ∀ x ∈ b :: B, x < 8 ∧ x ≠ 3 := h2
  have h3 : (a :: A).length + (b :: B).length ≤ 24 := h3
  have h4 : ∀ u, 4 ≤ u → (a :: A).count u + (b :: B).count u ≤ 2 := h4
  have hpv : p < 8 ∧ p ≠ 3 := by
    rcases hup with ⟨_, e⟩ | ⟨_, e⟩
    · rw [e]; exact h2 b List.mem_cons_self
    · rw [e]; exact h1 a List.mem_cons_self
  have hpn : ((p : Nat) : Int) ≠ -1 := by omega
  -- both begin with p
  obtain ⟨A', eA⟩ : ∃ A', zpt u p (a :: A) = p :: A' := by
    rw [zpt]
    by_cases c : a = u
    · rw [if_pos (by omega), if_neg hpn, Int.toNat_natCast]; exact ⟨_, rfl⟩
    · rw [if_neg (by omega), show a = p by omega]; exact ⟨_, rfl⟩
  obtain ⟨B', eB⟩ : ∃ B', zpt u p (b :: B) = p :: B' := by
    rw [zpt]
    by_cases c : b = u
    · rw [if_pos (by omega), if_neg hpn, Int.toNat_natCast]; exact ⟨_, rfl⟩
    · rw [if_neg (by omega), show b = p by omega]; exact ⟨_, rfl⟩
  have hc1 : 1 ≤ zcp (zpt u p (a :: A)) (zpt u p (b :: B)) := by
    rw [eA, eB, zcp, if_pos rfl]; omega
  have l1 := zpt_len (u := u) hpn (a :: A)
  have l2 := zpt_len (u := u) hpn (b :: B)
  have h4u := h4 u (by omega)
  refine zsk_v (fun x hx => ?_) (fun x hx => ?_) ?_ (fun v hv => ?_)
  · rcases zpt_mem _ hx with q | ⟨_, q⟩
    · exact h1 x q
    · rw [q, Int.toNat_natCast]; exact hpv
  · rcases zpt_mem _ hx with q | ⟨_, q⟩
    · exact h2 x q
    · rw [q, Int.toNat_natCast]; exact hpv
  · omega
  · obtain ⟨c, c1, c2⟩ := zsk_cnt v (zpt u p (a :: A)) (zpt u p (b :: B))
    have d1 := zpt_cnt (u := u) (v := v) (p := p) (a :: A)
    have d2 := zpt_cnt (u := u) (v := v) (p := p) (b :: B)
    have h4v := h4 v hv
    by_cases e : v = p
    · have hc : 1 ≤ c := by
        have g : (zpt u p (a :: A)).drop (zcp (zpt u p (a :: A)) (zpt u p (b :: B))) = A'.drop (zcp A' B') := by rw [eA, eB, zcp, if_pos rfl, List.drop_succ_cons]
        rw [g, eA, e, List.count_cons_self] at c1
        obtain ⟨c', k1, _⟩ := zsk_cnt p A' B'
        omega
      rw [if_pos e] at d1 d2
      omega
    · rw [if_neg e] at d1 d2
      omega
theorem zvS_none {A B : List Nat} (h : zvS (A, B)) (u : Nat) : zvS (zsk (zpt u (-1) A, zpt u (-1) B)) := by
  obtain ⟨h1, h2, h3, h4, h5⟩ := h
  have l1 := zpt_lenN (u := u) A
  have l2 := zpt_lenN (u := u) B
  have h3 : A.length + B.length ≤ 24 := h3
  refine zsk_v (fun x hx => ?_) (fun x hx => ?_) ?_ (fun v hv => ?_)
  · rcases zpt_mem _ hx with q | ⟨q, _⟩
    · exact h1 x q
    · exact absurd rfl q
  · rcases zpt_mem _ hx with q | ⟨q, _⟩
    · exact h2 x q
    · exact absurd rfl q
  · omega
  · obtain ⟨c, c1, c2⟩ := zsk_cnt v (zpt u (-1) A) (zpt u (-1) B)
    have d1 := zpt_cntN (u := u) (v := v) A
    have d2 := zpt_cntN (u := u) (v := v) B
    have h4v : A.count v + B.count v ≤ 2 := h4 v hv
    omega
theorem zpu_nn {a b : Int} {k : Nat} (hk : k < zqn a b) : 3 < zpu a b k := by
  unfold zqn at hk; unfold zpu
  by_cases c1 : 3 < a ∧ 3 < b
  · rw [if_pos c1]; split <;> omega
  · rw [if_neg c1] at hk ⊢
    by_cases c2 : ¬ 3 < a ∧ ¬ 3 < b
    · rw [if_pos c2] at hk; omega
    · split <;> omega
theorem zpi_one {a b : Int} {k : Nat} (hk : k < zqn a b) (h : a = -1 ∨ b = -1) : zpi a b k = -1 := by
  unfold zqn at hk; unfold zpi
  have c1 : ¬ (3 < a ∧ 3 < b) := by omega
  rw [if_neg c1] at hk ⊢
  by_cases c2 : ¬ 3 < a ∧ ¬ 3 < b
  · rw [if_pos c2] at hk; omega
  · rw [if_neg c2, if_pos h] at hk
    have c3 : k = 0 := by omega
    rw [if_pos c3]
theorem zpi_key {a b : Int} {k : Nat} (c : zpi a b k ≠ -1) : (zpu a b k = a ∧ zpi a b k = b) ∨ (zpu a b k = b ∧ zpi a b k = a) := by
  unfold zpi at c ⊢; unfold zpu
  by_cases c1 : 3 < a ∧ 3 < b
  · rw [if_pos c1] at c
    rw [if_pos c1, if_pos c1]
    by_cases c2 : k < 2
    · rw [if_pos c2] at c; exact absurd rfl c
    · rw [if_neg c2]
      by_cases c3 : k = 2
      · have c4 : k = 0 ∨ k = 2 := Or.inr c3
        rw [if_pos c3, if_pos c4]; exact Or.inl ⟨rfl, rfl⟩
      · have c4 : ¬ (k = 0 ∨ k = 2) := by omega
        rw [if_neg c3, if_neg c4]; exact Or.inr ⟨rfl, rfl⟩
  · rw [if_neg c1] at c
    rw [if_neg c1, if_neg c1]
    by_cases c2 : k = 0
    · rw [if_pos c2] at c; exact absurd rfl c
    · rw [if_neg c2]
      by_cases c3 : 3 < a
      · rw [if_pos c3, if_pos c3]; exact Or.inl ⟨rfl, rfl⟩
      · rw [if_neg c3, if_neg c3]; exact Or.inr ⟨rfl, rfl⟩
theorem zvS_nx {s : zSt} {k : Nat} (h : zvS s) (hk : k < zqn (zhd s.1) (zhd s.2)) : zvS (znx s k) := by
  obtain ⟨A, B⟩ := s
  show zvS (zsk (zpt (zpu (zhd A) (zhd B) k) (zpi (zhd A) (zhd B) k) A, zpt (zpu (zhd A) (zhd B) k) (zpi (zhd A) (zhd B) k) B))
  replace hk : k < zqn (zhd A) (zhd B) := hk
  have hu := zpu_nn hk
  obtain ⟨U, hU⟩ : ∃ U : Nat, zpu (zhd A) (zhd B) k = U := ⟨(zpu (zhd A) (zhd B) k).toNat, by omega⟩
  by_cases c : zpi (zhd A) (zhd B) k = -1
  · rw [hU, c]; exact zvS_none h U
  · cases A with
    | nil => exact absurd (zpi_one hk (Or.inl rfl)) c
    | cons a A =>
      cases B with
      | nil => exact absurd (zpi_one hk (Or.inr rfl)) c
      | cons b B =>
        have ha : zhd (a :: A) = ((a : Nat) : Int) := rfl
        have hb : zhd (b :: B) = ((b : Nat) : Int) := rfl
        rw [ha, hb] at hu hU c ⊢
        have key := zpi_key c
        obtain ⟨P, hP⟩ : ∃ P : Nat, zpi (a : Int) (b : Int) k = P := ⟨(zpi (a : Int) (b : Int) k).toNat, by omega⟩
        rw [hU, hP] at key ⊢
        rw [hU] at hu
        exact zvS_ahead h U P (by omega) (by omega)


/-! THE FRAME: a pure picture (values are whole numbers, cells have fixed numbers), and one judgement over it -/
abbrev vI (x : Int) : Nat × Int := (0, x)
abbrev vL (x : Int) : Nat × Int := (1, x)
abbrev vR (q : Nat) : Nat × Int := (2, (q : Int))
abbrev vN : Nat × Int := (2, -1)
def x_ref (ρ : Nat → Nat) (z : Int) : Value := if z < 0 then .null else .ref (ρ z.toNat)
def x_fv (ρ : Nat → Nat) (t : Nat) (z : Int) : Value := if t = 1 then .long (Int64.ofInt z) else if t = 2 then x_ref ρ z else .int (Int32.ofInt z)
abbrev x_rv (ρ : Nat → Nat) (v : Nat × Int) : Value := x_fv ρ v.1 v.2
theorem x_rvI (ρ : Nat → Nat) (x : Int) : x_rv ρ (vI x) = .int (Int32.ofInt x) := rfl
theorem x_rvL (ρ : Nat → Nat) (x : Int) : x_rv ρ (vL x) = .long (Int64.ofInt x) := rfl
theorem x_rvN (ρ : Nat → Nat) : x_rv ρ vN = .null := rfl
theorem x_refR (ρ : Nat → Nat) (q : Nat) : x_ref ρ (q : Int) = .ref (ρ q) := by
  unfold x_ref
  rw [if_neg (by omega), Int.toNat_natCast]
theorem x_rvR (ρ : Nat → Nat) (q : Nat) : x_rv ρ (vR q) = .ref (ρ q) := x_refR ρ q
theorem x_cat (ρ : Nat → Nat) (t : Nat) (z : Int) : (x_fv ρ t z).category = if t = 1 then 2 else 1 := by
  unfold x_fv x_ref
  split
  · rfl
  · split
    · split <;> rfl
    · rfl
/-- a method: own class, code, locals, answer type, whether a constructor; one more than the length of the script, its contents (of the law alone) -/
abbrev x_M : Type := String × ByteArray × Nat × Option FieldType × Bool × Nat × (Nat → Int)
abbrev x_own (μ : x_M) : String := μ.1
abbrev x_cc (μ : x_M) : ByteArray := μ.2.1
abbrev x_nL (μ : x_M) : Nat := μ.2.2.1
abbrev x_ret (μ : x_M) : Option FieldType := μ.2.2.2.1
abbrev x_ini (μ : x_M) : Bool := μ.2.2.2.2.1
abbrev x_sn (μ : x_M) : Nat := μ.2.2.2.2.2.1
abbrev x_sc (μ : x_M) : Nat → Int := μ.2.2.2.2.2.2
def x_ce (cy : Nat → ClassId) (ρ : Nat → Nat) (k : Nat × Nat) (g : Nat → Int) : va_E :=
  if k.1 ≤ 12 then .inr (k.1, (xFT k.1).mapIdx (fun j t => x_fv ρ t (g j)))
  else if k.1 = 14 then .inl (cy 14, k.2, .inr (.inl (fun j => Int64.ofInt (g j))))
  else if k.1 ≤ 15 then .inl (cy k.1, k.2, .inl (fun j => Int32.ofInt (g j)))
  else .inl (cy k.1, k.2, .inr (.inr (.inr (.inr (fun j => if g j < 0 then none else some (ρ (g j).toNat))))))
theorem x_ceO {cy : Nat → ClassId} {ρ : Nat → Nat} {k : Nat × Nat} {g : Nat → Int} {ci n : Nat} (hk : k = (ci, n)) (h : ci ≤ 12) : x_ce cy ρ k g = .inr (ci, (xFT ci).mapIdx (fun j t => x_fv ρ t (g j))) := by
  subst hk; unfold x_ce; rw [if_pos h]
theorem x_ceI {cy : Nat → ClassId} {ρ : Nat → Nat} {k : Nat × Nat} {g : Nat → Int} {n : Nat} (hk : k = (13, n)) : x_ce cy ρ k g = .inl (cy 13, n, .inl (fun j => Int32.ofInt (g j))) := by
  subst hk; rfl
theorem x_ceJ {cy : Nat → ClassId} {ρ : Nat → Nat} {k : Nat × Nat} {g : Nat → Int} {n : Nat} (hk : k = (14, n)) : x_ce cy ρ k g = .inl (cy 14, n, .inr (.inl (fun j => Int64.ofInt (g j)))) := by
  subst hk; rfl
theorem x_ceZ {cy : Nat → ClassId} {ρ : Nat → Nat} {k : Nat × Nat} {g : Nat → Int} {n : Nat} (hk : k = (15, n)) : x_ce cy ρ k g = .inl (cy 15, n, .inl (fun j => Int32.ofInt (g j))) := by
  subst hk; rfl
theorem x_ceR {cy : Nat → ClassId} {ρ : Nat → Nat} {k : Nat × Nat} {g : Nat → Int} {a n : Nat} (hk : k = (a, n)) (h : 16 ≤ a) : x_ce cy ρ k g = .inl (cy a, n, .inr (.inr (.inr (.inr (fun j => if g j < 0 then none else some (ρ (g j).toNat)))))) := by
  subst hk; unfold x_ce
  rw [if_neg (by show ¬ a ≤ 12; omega), if_neg (by show ¬ a = 14; omega), if_neg (by show ¬ a ≤ 15; omega)]
def x_wl (cy : Nat → ClassId) (ρ : Nat → Nat) (L : List Nat) (G : Nat → Nat → Int) : va_W := L.map (fun i => (ρ i, x_ce cy ρ (xK i) (G i)))
abbrev x_A (B : Nat) : Nat → Prop := fun q => B ≤ q
def x_nd (L : List Nat) : Prop := ∀ (i j r : Nat), L[i]? = some r → L[j]? = some r → i = j
def x_isR (k : Nat × Nat) (j : Nat) : Bool := if k.1 ≤ 12 then (xFT k.1)[j]? == some 2 else decide (16 ≤ k.1)
def x_okz (L : List Nat) (z : Int) : Prop := z < 0 ∨ z = 0 ∨ z.toNat ∈ L
def x_ok (L : List Nat) (v : Nat × Int) : Prop := v.1 = 2 → x_okz L v.2
def x_okS (L : List Nat) (st : List (Nat × Int)) : Prop := ∀ v ∈ st, x_ok L v
def x_okl (L : List Nat) (ls : List (Option (Nat × Int))) : Prop := ∀ v, some v ∈ ls → x_ok L v
def x_Rep (D : va_G) (cy : Nat → ClassId) (B : Nat) (ρ : Nat → Nat) (L : List Nat) (G : Nat → Nat → Int) (H : Heap) : Prop :=
  va_P D vwCl (x_wl cy ρ L G) H ∧ va_D (x_A B) (x_wl cy ρ L G) ∧ x_nd L ∧ 0 ∉ L ∧ (∀ i ∈ L, ∀ k, x_isR (xK i) k = true → x_okz L (G i k)) ∧ B ≤ H.size
def x_ext (L0 : List Nat) (ρ0 : Nat → Nat) (L : List Nat) (ρ : Nat → Nat) : Prop := (∀ i ∈ L0, i ∈ L ∧ ρ i = ρ0 i) ∧ ρ 0 = ρ0 0
theorem x_ext.rf {L : List Nat} {ρ : Nat → Nat} : x_ext L ρ L ρ := ⟨fun _ h => ⟨h, rfl⟩, rfl⟩
theorem x_ext.tr {L0 L1 L2 : List Nat} {ρ0 ρ1 ρ2 : Nat → Nat} (h : x_ext L0 ρ0 L1 ρ1) (k : x_ext L1 ρ1 L2 ρ2) : x_ext L0 ρ0 L2 ρ2 :=
  ⟨fun i hi => ⟨(k.1 i (h.1 i hi).1).1, (k.1 i (h.1 i hi).1).2.trans (h.1 i hi).2⟩, k.2.trans h.2⟩
theorem x_okz.ext {L0 L1 : List Nat} {ρ0 ρ1 : Nat → Nat} (h : x_ext L0 ρ0 L1 ρ1) {z : Int} (k : x_okz L0 z) : x_okz L1 z := by
  rcases k with k | k | k
  · exact Or.inl k
  · exact Or.inr (Or.inl k)
  · exact Or.inr (Or.inr (h.1 _ k).1)
theorem x_ref_ext {L0 L1 : List Nat} {ρ0 ρ1 : Nat → Nat} (h : x_ext L0 ρ0 L1 ρ1) {z : Int} (k : x_okz L0 z) : x_ref ρ1 z = x_ref ρ0 z := by
  unfold x_ref
  by_cases hz : z < 0
  · rw [if_pos hz, if_pos hz]
  · rw [if_neg hz, if_neg hz]
    rcases k with k | k | k
    · exact absurd k hz
    · rw [k]; exact congrArg Value.ref h.2
    · rw [(h.1 _ k).2]
theorem x_fv_ext {L0 L1 : List Nat} {ρ0 ρ1 : Nat → Nat} (h : x_ext L0 ρ0 L1 ρ1) {t : Nat} {z : Int} (k : t = 2 → x_okz L0 z) : x_fv ρ1 t z = x_fv ρ0 t z := by
  unfold x_fv
  by_cases h1 : t = 1
  · rw [if_pos h1, if_pos h1]
  · rw [if_neg h1, if_neg h1]
    by_cases h2 : t = 2
    · rw [if_pos h2, if_pos h2, x_ref_ext h (k h2)]
    · rw [if_neg h2, if_neg h2]
theorem x_rv_ext {L0 L1 : List Nat} {ρ0 ρ1 : Nat → Nat} (h : x_ext L0 ρ0 L1 ρ1) {v : Nat × Int} (k : x_ok L0 v) : x_rv ρ1 v = x_rv ρ0 v := x_fv_ext h k
theorem x_map_ext {L0 L1 : List Nat} {ρ0 ρ1 : Nat → Nat} (h : x_ext L0 ρ0 L1 ρ1) {st : List (Nat × Int)} (k : x_okS L0 st) : st.map (x_rv ρ1) = st.map (x_rv ρ0) :=
  List.map_congr_left fun v hv => x_rv_ext h (k v hv)
/-- the locals, as the kit lists them -/
def x_lv (ρ : Nat → Nat) : Nat → List (Option (Nat × Int)) → List (Nat × Value)
  | _, [] => []
  | i, none :: l => x_lv ρ (i + 1) l
  | i, some v :: l => (i, x_rv ρ v) :: x_lv ρ (i + 1) l
theorem x_lv_mem (ρ : Nat → Nat) : ∀ (l : List (Option (Nat × Int))) (i : Nat) (q : Nat × Value), q ∈ x_lv ρ i l ↔ ∃ j v, l[j]? = some (some v) ∧ q = (i + j, x_rv ρ v)
  | [], i, q => by simp [x_lv]
  | none :: l, i, q => by
    rw [x_lv, x_lv_mem ρ l (i + 1) q]
    constructor
    · rintro ⟨j, v, h1, h2⟩
      exact ⟨j + 1, v, by simpa using h1, by rw [h2]; congr 1; omega⟩
    · rintro ⟨j, v, h1, h2⟩
      cases j with
      | zero => simp at h1
      | succ j => exact ⟨j, v, by simpa using h1, by rw [h2]; congr 1; omega⟩
  | some u :: l, i, q => by
    rw [x_lv, List.mem_cons, x_lv_mem ρ l (i + 1) q]
    constructor
    · rintro (h | ⟨j, v, h1, h2⟩)
      · exact ⟨0, u, rfl, by rw [h]; rfl⟩
      · exact ⟨j + 1, v, by simpa using h1, by rw [h2]; congr 1; omega⟩
    · rintro ⟨j, v, h1, h2⟩
      cases j with
      | zero =>
        have : u = v := by simpa using h1
        exact Or.inl (by rw [h2, this]; rfl)
      | succ j => exact Or.inr ⟨j, v, by simpa using h1, by rw [h2]; congr 1; omega⟩
theorem x_lv_ext {L0 L1 : List Nat} {ρ0 ρ1 : Nat → Nat} (h : x_ext L0 ρ0 L1 ρ1) : ∀ (l : List (Option (Nat × Int))) (i : Nat), x_okl L0 l → x_lv ρ1 i l = x_lv ρ0 i l
  | [], i, _ => rfl
  | none :: l, i, k => by
    rw [x_lv, x_lv]
    exact x_lv_ext h l (i + 1) fun v hv => k v (List.mem_cons_of_mem _ hv)
  | some u :: l, i, k => by
    rw [x_lv, x_lv, x_rv_ext h (k u List.mem_cons_self)]
    rw [x_lv_ext h l (i + 1) fun v hv => k v (List.mem_cons_of_mem _ hv)]
abbrev x_tys (cy : Nat → ClassId) : List (ClassId × FieldType) := [(cy 13, .int), (cy 14, .long), (cy 15, .boolean), (cy 16, .object "TwoSides$Side"), (cy 17, .object "TwoSides$Word"), (cy 18, .array .int)]
abbrev x_rm (d mc ms : Nat) : Room := { frames := d, cells := mc, slots := ms, locals := 37 * d + 8 }
/-- where a method ends: the instruction fits the answer -/
def x_rop (μ : x_M) (pc : Nat) (v : Option (Nat × Int)) : Prop := match v with
  | none => x_ret μ = none ∧ decode (x_cc μ) pc = .ok (.return_, 1)
  | some w => (w.1 = 0 ∧ decode (x_cc μ) pc = .ok (.ireturn, 1) ∧ (x_ret μ = some .int ∨ (x_ret μ = some .boolean ∧ (w.2 = 0 ∨ w.2 = 1)))) ∨ (w.1 = 1 ∧ decode (x_cc μ) pc = .ok (.lreturn, 1) ∧ x_ret μ = some .long) ∨ (w.1 = 2 ∧ decode (x_cc μ) pc = .ok (.areturn, 1) ∧ ∃ n, x_ret μ = some (.object n))
abbrev x_Q : Type := Option (Nat × Int) → List Nat → (Nat → Nat → Int) → Prop
def x_tb : List Cond := lw_tbl.filter goodWord
theorem x_tbm {w : Cond} (h : w ∈ lw_tbl) (g : goodWord w = true) : w ∈ x_tb := List.mem_filter.mpr ⟨h, g⟩
def x_isN : Cond → Bool
  | .fieldLinkNest .. | .methodLinkNest .. | .arrayOver _ => true
  | _ => false
/-- words that are no atoms of the kit's table: private members of nest mates, arrays of objects -/
def x_env (U : State) : Prop := ∀ w ∈ lw_tbl, x_isN w = true → va_Nw w U
theorem x_aoV {ty : FieldType} {s U : State} (hW : s.vm = U.vm) (h : (Cond.arrayOver ty).before #[] s = true) : va_Nw (.arrayOver ty) U := by
  unfold va_Nw
  unfold Cond.before Cond.holds at h ⊢
  simp only [Cond.value] at h ⊢
  rw [← hW]
  exact h
theorem x_env.warm {s U : State} (hW : s.WarmedH U.vm) (h : x_env s) : x_env U := by
  intro w hw hn
  have k := h w hw hn
  cases w <;> first | (cases hn; done) | exact va_Nw.warmF hW k | exact va_Nw.warmM hW k | exact x_aoV (s := s.setVm U.vm) rfl (by rw [Cond.arrayOver_setVmC hW.alike]; exact k)
theorem x_env.same {s U : State} (hW : s.vm = U.vm) (h : x_env s) : x_env U := by
  intro w hw hn
  have k := h w hw hn
  cases w <;> first | (cases hn; done) | exact va_Nw.same rfl hW k | exact x_aoV hW k
/-- what stands fast while a method runs -/
def x_C (μ : x_M) (d mc ms : Nat) (Q : x_Q) (p : Program) (l : Launch) (e : Env) (s : State) (m : MethodId) (args : Array Value) (below : List Frame) (meth : Method) (c : Code) (D : va_G) (cy : Nat → ClassId) (B : Nat) (L0 : List Nat) (ρ0 : Nat → Nat) (Z : State → Prop) : Prop :=
  p.tables.exec = Jvm.exec ∧ c.code = x_cc μ ∧ c.maxLocals = x_nL μ ∧ s.vm.findClass (x_own μ) = some m.cls ∧ (∀ w ∈ x_tb, w.before args s = true) ∧ (va_K D vwCl (x_tys cy) s ∧ x_env s) ∧ B ≤ s.heap.size ∧ (x_ini μ = true → meth.name = "<init>") ∧
  (x_sn μ = 0 ∨ (va_X (ρ0 0) (x_sn μ - 1) (fun j => Int32.ofInt (x_sc μ j)) s s.heap ∧ ρ0 0 < s.heap.size ∧ ¬ B ≤ ρ0 0)) ∧
  ∀ (v : Option (Nat × Int)) (L' : List Nat) (G' : Nat → Nat → Int) (ρ' : Nat → Nat) (H' : Heap) (locs' : List Loc) (k n pc' : Nat) (ls' : Array Slot), Q v L' G' → x_rop μ pc' v → x_Rep D cy B ρ' L' G' H' → x_ext L0 ρ0 L' ρ' → (∀ w, v = some w → x_ok L' w) → va_S (x_A B) s.heap H' locs' → k ≤ mc → n ≤ ms →
    W p l e (x_rm d mc ms) s m args below meth c H' locs' k n Z (F0 m pc' ls' (v.toList.map (x_rv ρ')))
/-- THE JUDGEMENT: from this place of the method, with these locals, this stack, this picture, it comes to an end with Q -/
def X (μ : x_M) (d mc ms : Nat) (Q : x_Q) (pc : Nat) (ls : List (Option (Nat × Int))) (st : List (Nat × Int)) (L : List Nat) (G : Nat → Nat → Int) (k n : Nat) : Prop :=
  ∀ (p : Program) (l : Launch) (e : Env) (s : State) (m : MethodId) (args : Array Value) (below : List Frame) (meth : Method) (c : Code) (D : va_G) (cy : Nat → ClassId) (B : Nat) (L0 : List Nat) (ρ0 : Nat → Nat) (Z : State → Prop) (H : Heap) (locs : List Loc) (lsA : Array Slot) (ρ : Nat → Nat),
    x_C μ d mc ms Q p l e s m args below meth c D cy B L0 ρ0 Z → x_Rep D cy B ρ L G H → x_ext L0 ρ0 L ρ → va_S (x_A B) s.heap H locs → lv_has lsA (x_nL μ) (x_lv ρ 0 ls) → x_okS L st → x_okl L ls → k ≤ mc → n ≤ ms →
    W p l e (x_rm d mc ms) s m args below meth c H locs k n Z (F0 m pc lsA (st.map (x_rv ρ)))
/-- a method's contract -/
def x_Qc (D : va_G) (cy : Nat → ClassId) (B : Nat) (ρ : Nat → Nat) (L : List Nat) (Q : x_Q) : State → Outcome → State → Prop := fun st o t =>
  (∃ (v : Option (Nat × Int)) (L' : List Nat) (G' : Nat → Nat → Int) (ρ' : Nat → Nat), o = .returned (v.map (x_rv ρ')) ∧ Q v L' G' ∧ x_Rep D cy B ρ' L' G' t.heap ∧ x_ext L ρ L' ρ' ∧ ∀ w, v = some w → x_ok L' w) ∧ va_F (x_A B) st t
def Ct (y : MethodName) (cc : ByteArray) (nL : Nat) (ret : Option FieldType) (d mc ms : Nat) (av : List (Nat × Int)) (L : List Nat) (G : Nat → Nat → Int) (Q : x_Q) : Prop :=
  ∀ (l : Launch) (D : va_G) (cy : Nat → ClassId) (B : Nat) (ρ : Nat → Nat), x_okS L av → Met l y (.code y cc nL ret :: x_tb) (x_rm d mc ms) (va_Pc (av.map (x_rv ρ)) (fun U => x_Rep D cy B ρ L G U.heap ∧ va_K D vwCl (x_tys cy) U ∧ x_env U)) (fun _ => x_Qc D cy B ρ L Q) mc ms (x_A B)
theorem x_calling_heap (a : Array Value) (U : State) (g : JFrame) (mk : MethodId) : (U.calling g mk a).heap = U.heap := rfl
theorem x_blind {av : List Value} {D : va_G} {cy : Nat → ClassId} {B : Nat} {ρ : Nat → Nat} {L : List Nat} {G : Nat → Nat → Int} : FrameBlind (va_Pc av (fun U => x_Rep D cy B ρ L G U.heap ∧ va_K D vwCl (x_tys cy) U ∧ x_env U)) :=
  fun a U g mk h => ⟨h.1, h.2.1, va_K.moved (u := U) (U := U.calling g mk a) (Vm.Alike.refl U.vm) h.2.2.1, x_env.same (s := U) (U := U.calling g mk a) rfl h.2.2.2⟩
/-! lists of cells -/
theorem x_wl_at {cy : Nat → ClassId} {ρ : Nat → Nat} {L : List Nat} {G : Nat → Nat → Int} {k r : Nat} (h : L[k]? = some r) : (x_wl cy ρ L G)[k]? = some (ρ r, x_ce cy ρ (xK r) (G r)) := by
  unfold x_wl
  rw [List.getElem?_map, h]; rfl
theorem x_wl_set {cy : Nat → ClassId} {ρ : Nat → Nat} {L : List Nat} {G G' : Nat → Nat → Int} {k r : Nat} {e : va_E} (hn : x_nd L) (h : L[k]? = some r) (ho : ∀ i, i ≠ r → G' i = G i) (he : x_ce cy ρ (xK r) (G' r) = e) : (x_wl cy ρ L G).set k (ρ r, e) = x_wl cy ρ L G' := by
  have hlt : k < L.length := (List.getElem?_eq_some_iff.mp h).1
  apply List.ext_getElem?
  intro j
  by_cases hj : j = k
  · subst hj
    rw [List.getElem?_set_self (by unfold x_wl; rw [List.length_map]; exact hlt), x_wl_at h, he]
  · rw [List.getElem?_set_ne (Ne.symm hj)]
    unfold x_wl
    rw [List.getElem?_map, List.getElem?_map]
    cases hb : L[j]? with
    | none => rfl
    | some b =>
      have : b ≠ r := fun q => hj (hn j k r (by rw [hb, q]) h)
      simp [ho b this]
def x_up (G : Nat → Nat → Int) (r k : Nat) (z : Int) : Nat → Nat → Int := fun i j => if i = r ∧ j = k then z else G i j
theorem x_up_ne {G : Nat → Nat → Int} {r k : Nat} {z : Int} {i : Nat} (h : i ≠ r) : x_up G r k z i = G i := by
  funext j; unfold x_up; rw [if_neg (fun q => h q.1)]
theorem x_up_k {G : Nat → Nat → Int} {r k : Nat} {z : Int} {j : Nat} (h : j ≠ k) : x_up G r k z r j = G r j := by
  unfold x_up; rw [if_neg (fun q => h q.2)]
theorem x_up_s {G : Nat → Nat → Int} {r k : Nat} {z : Int} : x_up G r k z r k = z := by
  unfold x_up; rw [if_pos ⟨rfl, rfl⟩]
/-- a world with one cell changed -/
theorem x_Rep.set {D : va_G} {cy : Nat → ClassId} {B : Nat} {ρ : Nat → Nat} {L : List Nat} {G : Nat → Nat → Int} {H H1 : Heap} {r k : Nat} {z : Int} (h : x_Rep D cy B ρ L G H) (hP : va_P D vwCl (x_wl cy ρ L (x_up G r k z)) H1) (hD : va_D (x_A B) (x_wl cy ρ L (x_up G r k z))) (hB : B ≤ H1.size) (hz : x_isR (xK r) k = true → x_okz L z) : x_Rep D cy B ρ L (x_up G r k z) H1 := by
  refine ⟨hP, hD, h.2.2.1, h.2.2.2.1, fun i hi j hj => ?_, hB⟩
  unfold x_up
  by_cases hc : i = r ∧ j = k
  · rw [if_pos hc]; exact hz (by rw [← hc.1, ← hc.2]; exact hj)
  · rw [if_neg hc]; exact h.2.2.2.2.1 i hi j hj
theorem x_mem {L : List Nat} {r : Nat} (hr : r ∈ L) : ∃ k : Nat, L[k]? = some r := List.getElem?_of_mem hr

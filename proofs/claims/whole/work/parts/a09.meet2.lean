/-! the class: met or new -/
section XMF
variable {L : List Nat} {ns : List zSt} {s : zSt} {e : Int}
theorem l_gr_me46 {w : Int} {t : Nat → Nat} {G0 G : Nat → Nat → Int} (hL : x_SL L) (hM : x_GM L) (hF : x_Fin xFL G) (hG : x_Fin xGL G) (hn : ns.length ≤ 1500) (hnd : ns.Nodup) (hvn : ∀ u, u ∈ ns → zvS u) (hv : zvS s) (h : cGn ns G) (ht : zHT zha ns t) (hts : ∀ i, i < 4096 → G 186 i = ((t i : Nat) : Int)) (e1 : G 179 3 = ((znr s : Nat) : Int)) (e2 : G 179 4 = ((zfr s : Nat) : Int)) (hQ : FR [179] G0 G) :
    ∀ (r i sl : Nat) (o6 : Option (Nat × Int)), i + r = 4096 → sl = (zha s + i) % 4096 → (∀ i', i' < i → t ((zha s + i') % 4096) ≠ 0 ∧ ns[t ((zha s + i') % 4096) - 1]? ≠ some s) →
    X mX5_meet 1 0 0 (pMe L G0 ns s e) 46 [some (vR 173), some (vI e), some (vL w), none, some (vI sl), some (vI i), o6] [] L G 0 0 := by
  intro r
  induction r with
  | zero =>
    intro i sl o6 hi hsl hp
    exact absurd (zHT_free ht (by omega) (fun i' h' => (hp i' (by omega)).1)) id
  | succ r ih =>
    intro i sl o6 hi hsl hp
    have hsl2 : sl < 4096 := by omega
    have htl := ht.1 sl hsl2
    have hg := hts sl hsl2
    by_cases c : t sl = 0
    · have hs : s ∉ ns := zHT_out ht hp (by rw [← hsl]; exact c)
      refine x_iload (pc := 46) dX5_meet_46 rfl ?_
      refine x_sipush (pc := 48) dX5_meet_48 (by decide) ?_
      refine x_cge (tgt := 129) (pc := 51) dX5_meet_51 (by decide) (by omega) (fun c_51 => ?_) (fun c_51 => ?_)
      · skip
        exact absurd c_51 (by omega)
      refine x_aloadn (pc := 54) dX5_meet_54 rfl ?_
      refine x_getR (186) (pc := 55) dX5_meet_55 fl_X5_29 k_173 (hM 173 (by decide) (by decide)) (f_173_4 hG) ?_
      refine x_iload (pc := 58) dX5_meet_58 rfl ?_
      refine x_iald (sl) (pc := 60) dX5_meet_60 k_186 (hM 186 (by decide) (by decide)) (⟨by omega, by omega, by decide⟩) ?_
      rw [hg]
      refine x_ieq (tgt := 129) (pc := 61) dX5_meet_61 (by decide) (by omega) (fun c_61 => ?_) (fun c_61 => ?_)
      rotate_left
      · skip
        exact absurd (show ((t sl : Nat) : Int) = 0 by omega) c_61
      exact l_gr_me129 hL hM hF hG hn hs hv h ht hts e1 e2 hQ (show i < 4096 by omega) hsl (fun i' h' => (hp i' h').1) c
    · obtain ⟨u, hu⟩ : ∃ u, ns[t sl - 1]? = some u := ⟨ns[t sl - 1]'(by omega), List.getElem?_eq_getElem (by omega)⟩
      obtain ⟨b1, b2⟩ := h.2.2.1 _ u hu
      have hvu := hvn u (List.mem_of_getElem? hu)
      have r1 := znr_lt hvu
      have r2 := (zfr_len hvu).2.2
      have r3 := znr_lt hv
      have r4 := (zfr_len hv).2.2
      have hidx : ((t sl : Nat) : Int) - 1 = ((t sl - 1 : Nat) : Int) := by omega
      have hsl3 : (((sl : Nat) : Int) + 1) % 4096 = (((sl + 1) % 4096 : Nat) : Int) := by omega
      have nxt : ns[t sl - 1]? ≠ some s → ∀ i', i' < i + 1 → t ((zha s + i') % 4096) ≠ 0 ∧ ns[t ((zha s + i') % 4096) - 1]? ≠ some s := fun q i' h' => by
        by_cases k : i' = i
        · rw [k, ← hsl]; exact ⟨c, q⟩
        · exact hp i' (by omega)
      have ihx := fun q o6 => ih (i + 1) ((sl + 1) % 4096) o6 (by omega) (by omega) (nxt q)
      refine x_iload (pc := 46) dX5_meet_46 rfl ?_
      refine x_sipush (pc := 48) dX5_meet_48 (by decide) ?_
      refine x_cge (tgt := 129) (pc := 51) dX5_meet_51 (by decide) (by omega) (fun c_51 => ?_) (fun c_51 => ?_)
      · skip
        exact absurd c_51 (by omega)
      refine x_aloadn (pc := 54) dX5_meet_54 rfl ?_
      refine x_getR (186) (pc := 55) dX5_meet_55 fl_X5_29 k_173 (hM 173 (by decide) (by decide)) (f_173_4 hG) ?_
      refine x_iload (pc := 58) dX5_meet_58 rfl ?_
      refine x_iald (sl) (pc := 60) dX5_meet_60 k_186 (hM 186 (by decide) (by decide)) (⟨by omega, by omega, by decide⟩) ?_
      rw [hg]
      refine x_ieq (tgt := 129) (pc := 61) dX5_meet_61 (by decide) (by omega) (fun c_61 => ?_) (fun c_61 => ?_)
      · skip
        exact absurd c_61 (by omega)
      refine x_aloadn (pc := 64) dX5_meet_64 rfl ?_
      refine x_getR (186) (pc := 65) dX5_meet_65 fl_X5_29 k_173 (hM 173 (by decide) (by decide)) (f_173_4 hG) ?_
      refine x_iload (pc := 68) dX5_meet_68 rfl ?_
      refine x_iald (sl) (pc := 70) dX5_meet_70 k_186 (hM 186 (by decide) (by decide)) (⟨by omega, by omega, by decide⟩) ?_
      rw [hg]
      refine x_iconst (pc := 71) dX5_meet_71 ?_
      refine x_isub (pc := 72) dX5_meet_72 ?_
      rw [hidx]
      refine x_istore (pc := 73) dX5_meet_73 (by decide) rfl ?_
      refine x_aloadn (pc := 75) dX5_meet_75 rfl ?_
      refine x_getR (184) (pc := 76) dX5_meet_76 fl_X5_21 k_173 (hM 173 (by decide) (by decide)) (f_173_2 hG) ?_
      refine x_iload (pc := 79) dX5_meet_79 rfl ?_
      refine x_lald (t sl - 1) (pc := 81) dX5_meet_81 k_184 (hM 184 (by decide) (by decide)) (⟨by omega, by omega, by decide⟩) ?_
      rw [b1]
      refine x_aloadn (pc := 82) dX5_meet_82 rfl ?_
      refine x_getR (179) (pc := 83) dX5_meet_83 fl_X5_18 k_173 (hM 173 (by decide) (by decide)) (f_173_1 hG) ?_
      refine x_getLn (ref := "") (pc := 86) dX5_meet_86 fn_X5_119 k_179 (hM 179 (by decide) (by decide)) ?_
      rw [e1]
      refine x_lcmp (pc := 89) dX5_meet_89 (by omega) ?_
      refine x_ine (tgt := 113) (pc := 90) dX5_meet_90 (by decide) (zl_rg) (fun c_90 => ?_) (fun c_90 => ?_)
      · skip
        have c_90 := zl_n c_90
        refine x_iload (pc := 113) dX5_meet_113 rfl ?_
        refine x_iconst (pc := 115) dX5_meet_115 ?_
        refine x_iadd (pc := 116) dX5_meet_116 ?_
        refine x_sipush (pc := 117) dX5_meet_117 (by decide) ?_
        refine x_iandm (pc := 120) dX5_meet_120 12 4096 (by decide) (by decide) (by decide) ?_
        rw [hsl3]
        refine x_istore (pc := 121) dX5_meet_121 (by decide) rfl ?_
        refine x_iinc (pc := 123) dX5_meet_123 rfl (by decide) rfl ?_
        refine x_goto (tgt := 46) (pc := 126) dX5_meet_126 (by decide) ?_
        refine ihx (fun q => ?_) _
        rw [hu] at q
        have q := Option.some.inj q
        subst q
        omega
      · skip
        have c_90 := zl_e c_90
        refine x_aloadn (pc := 93) dX5_meet_93 rfl ?_
        refine x_getR (185) (pc := 94) dX5_meet_94 fl_X5_25 k_173 (hM 173 (by decide) (by decide)) (f_173_3 hG) ?_
        refine x_iload (pc := 97) dX5_meet_97 rfl ?_
        refine x_iald (t sl - 1) (pc := 99) dX5_meet_99 k_185 (hM 185 (by decide) (by decide)) (⟨by omega, by omega, by decide⟩) ?_
        rw [b2]
        refine x_aloadn (pc := 100) dX5_meet_100 rfl ?_
        refine x_getR (179) (pc := 101) dX5_meet_101 fl_X5_18 k_173 (hM 173 (by decide) (by decide)) (f_173_1 hG) ?_
        refine x_getIn (ref := "") (pc := 104) dX5_meet_104 fn_X5_122 k_179 (hM 179 (by decide) (by decide)) ?_
        rw [e2]
        refine x_cne (tgt := 113) (pc := 107) dX5_meet_107 (by decide) (by omega) (fun c_107 => ?_) (fun c_107 => ?_)
        · skip
          refine x_iload (pc := 113) dX5_meet_113 rfl ?_
          refine x_iconst (pc := 115) dX5_meet_115 ?_
          refine x_iadd (pc := 116) dX5_meet_116 ?_
          refine x_sipush (pc := 117) dX5_meet_117 (by decide) ?_
          refine x_iandm (pc := 120) dX5_meet_120 12 4096 (by decide) (by decide) (by decide) ?_
          rw [hsl3]
          refine x_istore (pc := 121) dX5_meet_121 (by decide) rfl ?_
          refine x_iinc (pc := 123) dX5_meet_123 rfl (by decide) rfl ?_
          refine x_goto (tgt := 46) (pc := 126) dX5_meet_126 (by decide) ?_
          refine ihx (fun q => ?_) _
          rw [hu] at q
          have q := Option.some.inj q
          subst q
          omega
        · skip
          refine x_iload (pc := 110) dX5_meet_110 rfl ?_
          refine x_rI (pc := 112) dX5_meet_112 rfl ?_
          have eus : u = s := zpk_inj hvu hv (by omega) (by omega)
          subst eus
          exact ⟨Or.inl ⟨List.mem_of_getElem? hu, by rw [zix_un _ _ _ hnd hu], h, hQ⟩, hF, hG⟩
theorem c_gr_meet {A0 B0 : List Nat} {tt : Nat} {G : Nat → Nat → Int} (hL : x_SL L) (hM : x_GM L) (hF : x_Fin xFL G) (hG : x_Fin xGL G) (hn : ns.length ≤ 1500) (hnd : ns.Nodup) (hvn : ∀ u, u ∈ ns → zvS u) (h : cGn ns G) (hth : c_th A0 B0 tt G) (hs : s = (A0.drop tt, B0.drop tt)) (hv : zvS s) (ht : tt ≤ A0.length ∧ tt ≤ B0.length) (hn0 : A0.length ≤ 32 ∧ B0.length ≤ 32) :
    CM yX5_meet mX5_meet 1 0 0 [vR 173, vI e] L G (pMe L G ns s e) := by
  obtain ⟨z1, z2⟩ := zha_i s
  refine Ct.of_X (μ := mX5_meet) rfl rfl (by decide) (fun h => by cases h) (Nat.le_of_ble_eq_true rfl) rfl ?_
  refine x_aloadn (pc := 0) dX5_meet_0 rfl ?_
  refine x_getR (179) (pc := 1) dX5_meet_1 fl_X5_18 k_173 (hM 173 (by decide) (by decide)) (f_173_1 hG) ?_
  refine x_cVV (pc := 4) dX5_meet_4 lk_X5_116 (c_th_pack hL hM hF hG hth (by rw [← hs]; exact hv) ht hn0) k_179 ⟨by decide, rfl⟩ (hM 179 (by decide) (by decide)) (⟨by decide, by decide⟩) (Nat.le_of_ble_eq_true rfl) rfl ?_
  rintro G1 ⟨k1, k2, k3, k4, hF, hG⟩
  rw [← hs] at k2 k3
  have h1 := h.FR k4 (by decide) (by decide) (by decide) (by decide)
  have r4 := (zfr_len hv).2.2
  refine x_aloadn (pc := 7) dX5_meet_7 rfl ?_
  refine x_getR (179) (pc := 8) dX5_meet_8 fl_X5_18 k_173 (hM 173 (by decide) (by decide)) (f_173_1 hG) ?_
  refine x_getLn (ref := "") (pc := 11) dX5_meet_11 fn_X5_119 k_179 (hM 179 (by decide) (by decide)) ?_
  rw [k2]
  refine x_aloadn (pc := 14) dX5_meet_14 rfl ?_
  refine x_getR (179) (pc := 15) dX5_meet_15 fl_X5_18 k_173 (hM 173 (by decide) (by decide)) (f_173_1 hG) ?_
  refine x_getIn (ref := "") (pc := 18) dX5_meet_18 fn_X5_122 k_179 (hM 179 (by decide) (by decide)) ?_
  rw [k3]
  refine x_i2l (pc := 21) dX5_meet_21 (by omega) ?_
  refine x_ldc2 (pc := 22) dX5_meet_22 co_X5_124 ?_
  refine x_lmul (pc := 25) dX5_meet_25 ?_
  refine x_lxorD (pc := 26) dX5_meet_26 ?_
  refine x_ldc2 (pc := 27) dX5_meet_27 co_X5_126 ?_
  refine x_lmul (pc := 30) dX5_meet_30 ?_
  refine x_lstoren (pc := 31) dX5_meet_31 rfl (by decide) rfl ?_
  refine x_lloadn (pc := 32) dX5_meet_32 rfl ?_
  refine x_bipush (pc := 33) dX5_meet_33 (by decide) ?_
  refine x_lushrD (pc := 35) dX5_meet_35 ?_
  refine x_l2i (pc := 36) dX5_meet_36 ?_
  refine x_sipush (pc := 37) dX5_meet_37 (by decide) ?_
  refine x_iandm (pc := 40) dX5_meet_40 12 4096 (by decide) (by decide) (by decide) ?_
  rw [z1]
  refine x_istore (pc := 41) dX5_meet_41 (by decide) rfl ?_
  refine x_iconst (pc := 43) dX5_meet_43 ?_
  refine x_istore (pc := 44) dX5_meet_44 (by decide) rfl ?_
  obtain ⟨t, t1, t2⟩ := h1.2.2.2
  exact l_gr_me46 hL hM hF hG hn hnd hvn hv h1 t1 t2 k2 k3 k4 4096 0 (zha s) none (by omega) (by omega) (fun i' h' => absurd h' (Nat.not_lt_zero i'))
end XMF


/-! the reference: puttings -/
section XHP
variable {L : List Nat} {ns : List zSt} {A B : List Nat} {s : zSt} {k : Nat}
abbrev pHp (L : List Nat) (G0 : Nat → Nat → Int) (a b : Int) (j : Nat) : x_Q := qI L fun x G' => ((x = 1 ∧ j < zqn a b) ∨ (x = 0 ∧ ¬ j < zqn a b)) ∧ (j < zqn a b → G' 127 39 = zpu a b j ∧ G' 127 40 = zpi a b j) ∧ FM [] [39, 40] G0 G' ∧ x_Fin xFL G'
theorem l_mo_hp {a b : Int} {j : Nat} {G : Nat → Nat → Int} (hL : x_SL L) (hF : x_Fin xFL G) (ha : -1 ≤ a ∧ a < 8 ∧ a ≠ 3) (hb : -1 ≤ b ∧ b < 8 ∧ b ≠ 3) (hj : j < 4) :
    X mX12_hasPutting 0 0 0 (pHp L G a b j) 60 [some (vR 127), some (vI k), some (vI j), some (vI a), some (vI b)] [] L G 0 0 := by
  refine x_aloadn (pc := 60) dX12_hasPutting_60 rfl ?_
  refine x_iconst (pc := 61) dX12_hasPutting_61 ?_
  refine x_putIF (pc := 62) dX12_hasPutting_62 fp_X12_237 k_127 (hL 127 (by decide) (by decide)) hF (fun hF => ?_)
  refine x_iloadn (pc := 65) dX12_hasPutting_65 rfl ?_
  refine x_iconst (pc := 66) dX12_hasPutting_66 ?_
  refine x_ceq (tgt := 76) (pc := 67) dX12_hasPutting_67 (by decide) (by omega) (fun c_67 => ?_) (fun c_67 => ?_)
  · skip
    refine x_aloadn (pc := 76) dX12_hasPutting_76 rfl ?_
    refine x_iloadn (pc := 77) dX12_hasPutting_77 rfl ?_
    refine x_iconst (pc := 78) dX12_hasPutting_78 ?_
    refine x_cne (tgt := 87) (pc := 79) dX12_hasPutting_79 (by decide) (by omega) (fun c_79 => ?_) (fun c_79 => ?_)
    · skip
      refine x_iloadn (pc := 87) dX12_hasPutting_87 rfl ?_
      refine x_putIF (pc := 88) dX12_hasPutting_88 fp_X12_240 k_127 (hL 127 (by decide) (by decide)) hF (fun hF => ?_)
      refine x_iloadn (pc := 91) dX12_hasPutting_91 rfl ?_
      refine x_ine (tgt := 107) (pc := 92) dX12_hasPutting_92 (by decide) (by omega) (fun c_92 => ?_) (fun c_92 => ?_)
      · skip
        refine x_iconst (pc := 107) dX12_hasPutting_107 ?_
        refine x_rZ (pc := 108) dX12_hasPutting_108 rfl (by omega) ?_
        refine ⟨by unfold zqn; (repeat' split) <;> omega, fun w => ⟨?_, ?_⟩, (FM.rf.upF (by decide)).upF (by decide), hF⟩
        · rw [x_up_s]; revert w; unfold zqn zpu; (repeat' split) <;> omega
        · rw [x_up_k (by decide), x_up_s]; revert w; unfold zqn zpi; (repeat' split) <;> omega
      · skip
        refine x_aloadn (pc := 95) dX12_hasPutting_95 rfl ?_
        refine x_getI (pc := 96) dX12_hasPutting_96 fl_X12_240 k_127 (hL 127 (by decide) (by decide)) ?_
        rw [x_up_s]
        refine x_iconst (pc := 99) dX12_hasPutting_99 ?_
        refine x_cle (tgt := 107) (pc := 100) dX12_hasPutting_100 (by decide) (by omega) (fun c_100 => ?_) (fun c_100 => ?_)
        · skip
          refine x_iconst (pc := 107) dX12_hasPutting_107 ?_
          refine x_rZ (pc := 108) dX12_hasPutting_108 rfl (by omega) ?_
          refine ⟨by unfold zqn; (repeat' split) <;> omega, fun w => ⟨?_, ?_⟩, (FM.rf.upF (by decide)).upF (by decide), hF⟩
          · rw [x_up_s]; revert w; unfold zqn zpu; (repeat' split) <;> omega
          · rw [x_up_k (by decide), x_up_s]; revert w; unfold zqn zpi; (repeat' split) <;> omega
        · skip
          refine x_iconst (pc := 103) dX12_hasPutting_103 ?_
          refine x_goto (tgt := 108) (pc := 104) dX12_hasPutting_104 (by decide) ?_
          refine x_rZ (pc := 108) dX12_hasPutting_108 rfl (by omega) ?_
          refine ⟨by unfold zqn; (repeat' split) <;> omega, fun w => ⟨?_, ?_⟩, (FM.rf.upF (by decide)).upF (by decide), hF⟩
          · rw [x_up_s]; revert w; unfold zqn zpu; (repeat' split) <;> omega
          · rw [x_up_k (by decide), x_up_s]; revert w; unfold zqn zpi; (repeat' split) <;> omega
    · skip
      refine x_iload (pc := 82) dX12_hasPutting_82 rfl ?_
      refine x_goto (tgt := 88) (pc := 84) dX12_hasPutting_84 (by decide) ?_
      refine x_putIF (pc := 88) dX12_hasPutting_88 fp_X12_240 k_127 (hL 127 (by decide) (by decide)) hF (fun hF => ?_)
      refine x_iloadn (pc := 91) dX12_hasPutting_91 rfl ?_
      refine x_ine (tgt := 107) (pc := 92) dX12_hasPutting_92 (by decide) (by omega) (fun c_92 => ?_) (fun c_92 => ?_)
      · skip
        refine x_iconst (pc := 107) dX12_hasPutting_107 ?_
        refine x_rZ (pc := 108) dX12_hasPutting_108 rfl (by omega) ?_
        refine ⟨by unfold zqn; (repeat' split) <;> omega, fun w => ⟨?_, ?_⟩, (FM.rf.upF (by decide)).upF (by decide), hF⟩
        · rw [x_up_s]; revert w; unfold zqn zpu; (repeat' split) <;> omega
        · rw [x_up_k (by decide), x_up_s]; revert w; unfold zqn zpi; (repeat' split) <;> omega
      · skip
        refine x_aloadn (pc := 95) dX12_hasPutting_95 rfl ?_
        refine x_getI (pc := 96) dX12_hasPutting_96 fl_X12_240 k_127 (hL 127 (by decide) (by decide)) ?_
        rw [x_up_s]
        refine x_iconst (pc := 99) dX12_hasPutting_99 ?_
        refine x_cle (tgt := 107) (pc := 100) dX12_hasPutting_100 (by decide) (by omega) (fun c_100 => ?_) (fun c_100 => ?_)
        · skip
          refine x_iconst (pc := 107) dX12_hasPutting_107 ?_
          refine x_rZ (pc := 108) dX12_hasPutting_108 rfl (by omega) ?_
          refine ⟨by unfold zqn; (repeat' split) <;> omega, fun w => ⟨?_, ?_⟩, (FM.rf.upF (by decide)).upF (by decide), hF⟩
          · rw [x_up_s]; revert w; unfold zqn zpu; (repeat' split) <;> omega
          · rw [x_up_k (by decide), x_up_s]; revert w; unfold zqn zpi; (repeat' split) <;> omega
        · skip
          refine x_iconst (pc := 103) dX12_hasPutting_103 ?_
          refine x_goto (tgt := 108) (pc := 104) dX12_hasPutting_104 (by decide) ?_
          refine x_rZ (pc := 108) dX12_hasPutting_108 rfl (by omega) ?_
          refine ⟨by unfold zqn; (repeat' split) <;> omega, fun w => ⟨?_, ?_⟩, (FM.rf.upF (by decide)).upF (by decide), hF⟩
          · rw [x_up_s]; revert w; unfold zqn zpu; (repeat' split) <;> omega
          · rw [x_up_k (by decide), x_up_s]; revert w; unfold zqn zpi; (repeat' split) <;> omega
  · skip
    refine x_iload (pc := 70) dX12_hasPutting_70 rfl ?_
    refine x_iconst (pc := 72) dX12_hasPutting_72 ?_
    refine x_cne (tgt := 109) (pc := 73) dX12_hasPutting_73 (by decide) (by omega) (fun c_73 => ?_) (fun c_73 => ?_)
    · skip
      refine x_iloadn (pc := 109) dX12_hasPutting_109 rfl ?_
      refine x_iconst (pc := 110) dX12_hasPutting_110 ?_
      refine x_cle (tgt := 171) (pc := 111) dX12_hasPutting_111 (by decide) (by omega) (fun c_111 => ?_) (fun c_111 => ?_)
      · skip
        refine x_aloadn (pc := 171) dX12_hasPutting_171 rfl ?_
        refine x_iloadn (pc := 172) dX12_hasPutting_172 rfl ?_
        refine x_iconst (pc := 173) dX12_hasPutting_173 ?_
        refine x_cle (tgt := 181) (pc := 174) dX12_hasPutting_174 (by decide) (by omega) (fun c_174 => ?_) (fun c_174 => ?_)
        · skip
          refine x_iload (pc := 181) dX12_hasPutting_181 rfl ?_
          refine x_putIF (pc := 183) dX12_hasPutting_183 fp_X12_240 k_127 (hL 127 (by decide) (by decide)) hF (fun hF => ?_)
          refine x_aloadn (pc := 186) dX12_hasPutting_186 rfl ?_
          refine x_iloadn (pc := 187) dX12_hasPutting_187 rfl ?_
          refine x_ine (tgt := 195) (pc := 188) dX12_hasPutting_188 (by decide) (by omega) (fun c_188 => ?_) (fun c_188 => ?_)
          · skip
            refine x_iloadn (pc := 195) dX12_hasPutting_195 rfl ?_
            refine x_iconst (pc := 196) dX12_hasPutting_196 ?_
            refine x_cle (tgt := 205) (pc := 197) dX12_hasPutting_197 (by decide) (by omega) (fun c_197 => ?_) (fun c_197 => ?_)
            · skip
              refine x_iloadn (pc := 205) dX12_hasPutting_205 rfl ?_
              refine x_putIF (pc := 206) dX12_hasPutting_206 fp_X12_237 k_127 (hL 127 (by decide) (by decide)) hF (fun hF => ?_)
              refine x_aloadn (pc := 209) dX12_hasPutting_209 rfl ?_
              refine x_getI (pc := 210) dX12_hasPutting_210 fl_X12_240 k_127 (hL 127 (by decide) (by decide)) ?_
              rw [x_up_k (by decide), x_up_s]
              refine x_iconst (pc := 213) dX12_hasPutting_213 ?_
              refine x_cle (tgt := 226) (pc := 214) dX12_hasPutting_214 (by decide) (by omega) (fun c_214 => ?_) (fun c_214 => ?_)
              · skip
                refine x_iconst (pc := 226) dX12_hasPutting_226 ?_
                refine x_rZ (pc := 227) dX12_hasPutting_227 rfl (by omega) ?_
                refine ⟨by unfold zqn; (repeat' split) <;> omega, fun w => ⟨?_, ?_⟩, ((FM.rf.upF (by decide)).upF (by decide)).upF (by decide), hF⟩
                · rw [x_up_k (by decide), x_up_s]; revert w; unfold zqn zpu; (repeat' split) <;> omega
                · rw [x_up_s]; revert w; unfold zqn zpi; (repeat' split) <;> omega
              · skip
                refine x_iloadn (pc := 217) dX12_hasPutting_217 rfl ?_
                refine x_iconst (pc := 218) dX12_hasPutting_218 ?_
                refine x_cge (tgt := 226) (pc := 219) dX12_hasPutting_219 (by decide) (by omega) (fun c_219 => ?_) (fun c_219 => ?_)
                · skip
                  refine x_iconst (pc := 226) dX12_hasPutting_226 ?_
                  refine x_rZ (pc := 227) dX12_hasPutting_227 rfl (by omega) ?_
                  refine ⟨by unfold zqn; (repeat' split) <;> omega, fun w => ⟨?_, ?_⟩, ((FM.rf.upF (by decide)).upF (by decide)).upF (by decide), hF⟩
                  · rw [x_up_k (by decide), x_up_s]; revert w; unfold zqn zpu; (repeat' split) <;> omega
                  · rw [x_up_s]; revert w; unfold zqn zpi; (repeat' split) <;> omega
                · skip
                  refine x_iconst (pc := 222) dX12_hasPutting_222 ?_
                  refine x_goto (tgt := 227) (pc := 223) dX12_hasPutting_223 (by decide) ?_
                  refine x_rZ (pc := 227) dX12_hasPutting_227 rfl (by omega) ?_
                  refine ⟨by unfold zqn; (repeat' split) <;> omega, fun w => ⟨?_, ?_⟩, ((FM.rf.upF (by decide)).upF (by decide)).upF (by decide), hF⟩
                  · rw [x_up_k (by decide), x_up_s]; revert w; unfold zqn zpu; (repeat' split) <;> omega
                  · rw [x_up_s]; revert w; unfold zqn zpi; (repeat' split) <;> omega
            · skip
              refine x_iload (pc := 200) dX12_hasPutting_200 rfl ?_
              refine x_goto (tgt := 206) (pc := 202) dX12_hasPutting_202 (by decide) ?_
              refine x_putIF (pc := 206) dX12_hasPutting_206 fp_X12_237 k_127 (hL 127 (by decide) (by decide)) hF (fun hF => ?_)
              refine x_aloadn (pc := 209) dX12_hasPutting_209 rfl ?_
              refine x_getI (pc := 210) dX12_hasPutting_210 fl_X12_240 k_127 (hL 127 (by decide) (by decide)) ?_
              rw [x_up_k (by decide), x_up_s]
              refine x_iconst (pc := 213) dX12_hasPutting_213 ?_
              refine x_cle (tgt := 226) (pc := 214) dX12_hasPutting_214 (by decide) (by omega) (fun c_214 => ?_) (fun c_214 => ?_)
              · skip
                refine x_iconst (pc := 226) dX12_hasPutting_226 ?_
                refine x_rZ (pc := 227) dX12_hasPutting_227 rfl (by omega) ?_
                refine ⟨by unfold zqn; (repeat' split) <;> omega, fun w => ⟨?_, ?_⟩, ((FM.rf.upF (by decide)).upF (by decide)).upF (by decide), hF⟩
                · rw [x_up_k (by decide), x_up_s]; revert w; unfold zqn zpu; (repeat' split) <;> omega
                · rw [x_up_s]; revert w; unfold zqn zpi; (repeat' split) <;> omega
              · skip
                refine x_iloadn (pc := 217) dX12_hasPutting_217 rfl ?_
                refine x_iconst (pc := 218) dX12_hasPutting_218 ?_
                refine x_cge (tgt := 226) (pc := 219) dX12_hasPutting_219 (by decide) (by omega) (fun c_219 => ?_) (fun c_219 => ?_)
                · skip
                  refine x_iconst (pc := 226) dX12_hasPutting_226 ?_
                  refine x_rZ (pc := 227) dX12_hasPutting_227 rfl (by omega) ?_
                  refine ⟨by unfold zqn; (repeat' split) <;> omega, fun w => ⟨?_, ?_⟩, ((FM.rf.upF (by decide)).upF (by decide)).upF (by decide), hF⟩
                  · rw [x_up_k (by decide), x_up_s]; revert w; unfold zqn zpu; (repeat' split) <;> omega
                  · rw [x_up_s]; revert w; unfold zqn zpi; (repeat' split) <;> omega
                · skip
                  refine x_iconst (pc := 222) dX12_hasPutting_222 ?_
                  refine x_goto (tgt := 227) (pc := 223) dX12_hasPutting_223 (by decide) ?_
                  refine x_rZ (pc := 227) dX12_hasPutting_227 rfl (by omega) ?_
                  refine ⟨by unfold zqn; (repeat' split) <;> omega, fun w => ⟨?_, ?_⟩, ((FM.rf.upF (by decide)).upF (by decide)).upF (by decide), hF⟩
                  · rw [x_up_k (by decide), x_up_s]; revert w; unfold zqn zpu; (repeat' split) <;> omega
                  · rw [x_up_s]; revert w; unfold zqn zpi; (repeat' split) <;> omega
          · skip
            refine x_iconst (pc := 191) dX12_hasPutting_191 ?_
            refine x_goto (tgt := 206) (pc := 192) dX12_hasPutting_192 (by decide) ?_
            refine x_putIF (pc := 206) dX12_hasPutting_206 fp_X12_237 k_127 (hL 127 (by decide) (by decide)) hF (fun hF => ?_)
            refine x_aloadn (pc := 209) dX12_hasPutting_209 rfl ?_
            refine x_getI (pc := 210) dX12_hasPutting_210 fl_X12_240 k_127 (hL 127 (by decide) (by decide)) ?_
            rw [x_up_k (by decide), x_up_s]
            refine x_iconst (pc := 213) dX12_hasPutting_213 ?_
            refine x_cle (tgt := 226) (pc := 214) dX12_hasPutting_214 (by decide) (by omega) (fun c_214 => ?_) (fun c_214 => ?_)
            · skip
              refine x_iconst (pc := 226) dX12_hasPutting_226 ?_
              refine x_rZ (pc := 227) dX12_hasPutting_227 rfl (by omega) ?_
              refine ⟨by unfold zqn; (repeat' split) <;> omega, fun w => ⟨?_, ?_⟩, ((FM.rf.upF (by decide)).upF (by decide)).upF (by decide), hF⟩
              · rw [x_up_k (by decide), x_up_s]; revert w; unfold zqn zpu; (repeat' split) <;> omega
              · rw [x_up_s]; revert w; unfold zqn zpi; (repeat' split) <;> omega
            · skip
              refine x_iloadn (pc := 217) dX12_hasPutting_217 rfl ?_
              refine x_iconst (pc := 218) dX12_hasPutting_218 ?_
              refine x_cge (tgt := 226) (pc := 219) dX12_hasPutting_219 (by decide) (by omega) (fun c_219 => ?_) (fun c_219 => ?_)
              · skip
                refine x_iconst (pc := 226) dX12_hasPutting_226 ?_
                refine x_rZ (pc := 227) dX12_hasPutting_227 rfl (by omega) ?_
                refine ⟨by unfold zqn; (repeat' split) <;> omega, fun w => ⟨?_, ?_⟩, ((FM.rf.upF (by decide)).upF (by decide)).upF (by decide), hF⟩
                · rw [x_up_k (by decide), x_up_s]; revert w; unfold zqn zpu; (repeat' split) <;> omega
                · rw [x_up_s]; revert w; unfold zqn zpi; (repeat' split) <;> omega
              · skip
                refine x_iconst (pc := 222) dX12_hasPutting_222 ?_
                refine x_goto (tgt := 227) (pc := 223) dX12_hasPutting_223 (by decide) ?_
                refine x_rZ (pc := 227) dX12_hasPutting_227 rfl (by omega) ?_
                refine ⟨by unfold zqn; (repeat' split) <;> omega, fun w => ⟨?_, ?_⟩, ((FM.rf.upF (by decide)).upF (by decide)).upF (by decide), hF⟩
                · rw [x_up_k (by decide), x_up_s]; revert w; unfold zqn zpu; (repeat' split) <;> omega
                · rw [x_up_s]; revert w; unfold zqn zpi; (repeat' split) <;> omega
        · skip
          refine x_iloadn (pc := 177) dX12_hasPutting_177 rfl ?_
          refine x_goto (tgt := 183) (pc := 178) dX12_hasPutting_178 (by decide) ?_
          refine x_putIF (pc := 183) dX12_hasPutting_183 fp_X12_240 k_127 (hL 127 (by decide) (by decide)) hF (fun hF => ?_)
          refine x_aloadn (pc := 186) dX12_hasPutting_186 rfl ?_
          refine x_iloadn (pc := 187) dX12_hasPutting_187 rfl ?_
          refine x_ine (tgt := 195) (pc := 188) dX12_hasPutting_188 (by decide) (by omega) (fun c_188 => ?_) (fun c_188 => ?_)
          · skip
            refine x_iloadn (pc := 195) dX12_hasPutting_195 rfl ?_
            refine x_iconst (pc := 196) dX12_hasPutting_196 ?_
            refine x_cle (tgt := 205) (pc := 197) dX12_hasPutting_197 (by decide) (by omega) (fun c_197 => ?_) (fun c_197 => ?_)
            · skip
              refine x_iloadn (pc := 205) dX12_hasPutting_205 rfl ?_
              refine x_putIF (pc := 206) dX12_hasPutting_206 fp_X12_237 k_127 (hL 127 (by decide) (by decide)) hF (fun hF => ?_)
              refine x_aloadn (pc := 209) dX12_hasPutting_209 rfl ?_
              refine x_getI (pc := 210) dX12_hasPutting_210 fl_X12_240 k_127 (hL 127 (by decide) (by decide)) ?_
              rw [x_up_k (by decide), x_up_s]
              refine x_iconst (pc := 213) dX12_hasPutting_213 ?_
              refine x_cle (tgt := 226) (pc := 214) dX12_hasPutting_214 (by decide) (by omega) (fun c_214 => ?_) (fun c_214 => ?_)
              · skip
                refine x_iconst (pc := 226) dX12_hasPutting_226 ?_
                refine x_rZ (pc := 227) dX12_hasPutting_227 rfl (by omega) ?_
                refine ⟨by unfold zqn; (repeat' split) <;> omega, fun w => ⟨?_, ?_⟩, ((FM.rf.upF (by decide)).upF (by decide)).upF (by decide), hF⟩
                · rw [x_up_k (by decide), x_up_s]; revert w; unfold zqn zpu; (repeat' split) <;> omega
                · rw [x_up_s]; revert w; unfold zqn zpi; (repeat' split) <;> omega
              · skip
                refine x_iloadn (pc := 217) dX12_hasPutting_217 rfl ?_
                refine x_iconst (pc := 218) dX12_hasPutting_218 ?_
                refine x_cge (tgt := 226) (pc := 219) dX12_hasPutting_219 (by decide) (by omega) (fun c_219 => ?_) (fun c_219 => ?_)
                · skip
                  refine x_iconst (pc := 226) dX12_hasPutting_226 ?_
                  refine x_rZ (pc := 227) dX12_hasPutting_227 rfl (by omega) ?_
                  refine ⟨by unfold zqn; (repeat' split) <;> omega, fun w => ⟨?_, ?_⟩, ((FM.rf.upF (by decide)).upF (by decide)).upF (by decide), hF⟩
                  · rw [x_up_k (by decide), x_up_s]; revert w; unfold zqn zpu; (repeat' split) <;> omega
                  · rw [x_up_s]; revert w; unfold zqn zpi; (repeat' split) <;> omega
                · skip
                  refine x_iconst (pc := 222) dX12_hasPutting_222 ?_
                  refine x_goto (tgt := 227) (pc := 223) dX12_hasPutting_223 (by decide) ?_
                  refine x_rZ (pc := 227) dX12_hasPutting_227 rfl (by omega) ?_
                  refine ⟨by unfold zqn; (repeat' split) <;> omega, fun w => ⟨?_, ?_⟩, ((FM.rf.upF (by decide)).upF (by decide)).upF (by decide), hF⟩
                  · rw [x_up_k (by decide), x_up_s]; revert w; unfold zqn zpu; (repeat' split) <;> omega
                  · rw [x_up_s]; revert w; unfold zqn zpi; (repeat' split) <;> omega
            · skip
              refine x_iload (pc := 200) dX12_hasPutting_200 rfl ?_
              refine x_goto (tgt := 206) (pc := 202) dX12_hasPutting_202 (by decide) ?_
              refine x_putIF (pc := 206) dX12_hasPutting_206 fp_X12_237 k_127 (hL 127 (by decide) (by decide)) hF (fun hF => ?_)
              refine x_aloadn (pc := 209) dX12_hasPutting_209 rfl ?_
              refine x_getI (pc := 210) dX12_hasPutting_210 fl_X12_240 k_127 (hL 127 (by decide) (by decide)) ?_
              rw [x_up_k (by decide), x_up_s]
              refine x_iconst (pc := 213) dX12_hasPutting_213 ?_
              refine x_cle (tgt := 226) (pc := 214) dX12_hasPutting_214 (by decide) (by omega) (fun c_214 => ?_) (fun c_214 => ?_)
              · skip
                refine x_iconst (pc := 226) dX12_hasPutting_226 ?_
                refine x_rZ (pc := 227) dX12_hasPutting_227 rfl (by omega) ?_
                refine ⟨by unfold zqn; (repeat' split) <;> omega, fun w => ⟨?_, ?_⟩, ((FM.rf.upF (by decide)).upF (by decide)).upF (by decide), hF⟩
                · rw [x_up_k (by decide), x_up_s]; revert w; unfold zqn zpu; (repeat' split) <;> omega
                · rw [x_up_s]; revert w; unfold zqn zpi; (repeat' split) <;> omega
              · skip
                refine x_iloadn (pc := 217) dX12_hasPutting_217 rfl ?_
                refine x_iconst (pc := 218) dX12_hasPutting_218 ?_
                refine x_cge (tgt := 226) (pc := 219) dX12_hasPutting_219 (by decide) (by omega) (fun c_219 => ?_) (fun c_219 => ?_)
                · skip
                  refine x_iconst (pc := 226) dX12_hasPutting_226 ?_
                  refine x_rZ (pc := 227) dX12_hasPutting_227 rfl (by omega) ?_
                  refine ⟨by unfold zqn; (repeat' split) <;> omega, fun w => ⟨?_, ?_⟩, ((FM.rf.upF (by decide)).upF (by decide)).upF (by decide), hF⟩
                  · rw [x_up_k (by decide), x_up_s]; revert w; unfold zqn zpu; (repeat' split) <;> omega
                  · rw [x_up_s]; revert w; unfold zqn zpi; (repeat' split) <;> omega
                · skip
                  refine x_iconst (pc := 222) dX12_hasPutting_222 ?_
                  refine x_goto (tgt := 227) (pc := 223) dX12_hasPutting_223 (by decide) ?_
                  refine x_rZ (pc := 227) dX12_hasPutting_227 rfl (by omega) ?_
                  refine ⟨by unfold zqn; (repeat' split) <;> omega, fun w => ⟨?_, ?_⟩, ((FM.rf.upF (by decide)).upF (by decide)).upF (by decide), hF⟩
                  · rw [x_up_k (by decide), x_up_s]; revert w; unfold zqn zpu; (repeat' split) <;> omega
                  · rw [x_up_s]; revert w; unfold zqn zpi; (repeat' split) <;> omega
          · skip
            refine x_iconst (pc := 191) dX12_hasPutting_191 ?_
            refine x_goto (tgt := 206) (pc := 192) dX12_hasPutting_192 (by decide) ?_
            refine x_putIF (pc := 206) dX12_hasPutting_206 fp_X12_237 k_127 (hL 127 (by decide) (by decide)) hF (fun hF => ?_)
            refine x_aloadn (pc := 209) dX12_hasPutting_209 rfl ?_
            refine x_getI (pc := 210) dX12_hasPutting_210 fl_X12_240 k_127 (hL 127 (by decide) (by decide)) ?_
            rw [x_up_k (by decide), x_up_s]
            refine x_iconst (pc := 213) dX12_hasPutting_213 ?_
            refine x_cle (tgt := 226) (pc := 214) dX12_hasPutting_214 (by decide) (by omega) (fun c_214 => ?_) (fun c_214 => ?_)
            · skip
              refine x_iconst (pc := 226) dX12_hasPutting_226 ?_
              refine x_rZ (pc := 227) dX12_hasPutting_227 rfl (by omega) ?_
              refine ⟨by unfold zqn; (repeat' split) <;> omega, fun w => ⟨?_, ?_⟩, ((FM.rf.upF (by decide)).upF (by decide)).upF (by decide), hF⟩
              · rw [x_up_k (by decide), x_up_s]; revert w; unfold zqn zpu; (repeat' split) <;> omega
              · rw [x_up_s]; revert w; unfold zqn zpi; (repeat' split) <;> omega
            · skip
              refine x_iloadn (pc := 217) dX12_hasPutting_217 rfl ?_
              refine x_iconst (pc := 218) dX12_hasPutting_218 ?_
              refine x_cge (tgt := 226) (pc := 219) dX12_hasPutting_219 (by decide) (by omega) (fun c_219 => ?_) (fun c_219 => ?_)
              · skip
                refine x_iconst (pc := 226) dX12_hasPutting_226 ?_
                refine x_rZ (pc := 227) dX12_hasPutting_227 rfl (by omega) ?_
                refine ⟨by unfold zqn; (repeat' split) <;> omega, fun w => ⟨?_, ?_⟩, ((FM.rf.upF (by decide)).upF (by decide)).upF (by decide), hF⟩
                · rw [x_up_k (by decide), x_up_s]; revert w; unfold zqn zpu; (repeat' split) <;> omega
                · rw [x_up_s]; revert w; unfold zqn zpi; (repeat' split) <;> omega
              · skip
                refine x_iconst (pc := 222) dX12_hasPutting_222 ?_
                refine x_goto (tgt := 227) (pc := 223) dX12_hasPutting_223 (by decide) ?_
                refine x_rZ (pc := 227) dX12_hasPutting_227 rfl (by omega) ?_
                refine ⟨by unfold zqn; (repeat' split) <;> omega, fun w => ⟨?_, ?_⟩, ((FM.rf.upF (by decide)).upF (by decide)).upF (by decide), hF⟩
                · rw [x_up_k (by decide), x_up_s]; revert w; unfold zqn zpu; (repeat' split) <;> omega
                · rw [x_up_s]; revert w; unfold zqn zpi; (repeat' split) <;> omega
      · skip
        refine x_iload (pc := 114) dX12_hasPutting_114 rfl ?_
        refine x_iconst (pc := 116) dX12_hasPutting_116 ?_
        refine x_cle (tgt := 171) (pc := 117) dX12_hasPutting_117 (by decide) (by omega) (fun c_117 => ?_) (fun c_117 => ?_)
        · skip
          refine x_aloadn (pc := 171) dX12_hasPutting_171 rfl ?_
          refine x_iloadn (pc := 172) dX12_hasPutting_172 rfl ?_
          refine x_iconst (pc := 173) dX12_hasPutting_173 ?_
          refine x_cle (tgt := 181) (pc := 174) dX12_hasPutting_174 (by decide) (by omega) (fun c_174 => ?_) (fun c_174 => ?_)
          · skip
            refine x_iload (pc := 181) dX12_hasPutting_181 rfl ?_
            refine x_putIF (pc := 183) dX12_hasPutting_183 fp_X12_240 k_127 (hL 127 (by decide) (by decide)) hF (fun hF => ?_)
            refine x_aloadn (pc := 186) dX12_hasPutting_186 rfl ?_
            refine x_iloadn (pc := 187) dX12_hasPutting_187 rfl ?_
            refine x_ine (tgt := 195) (pc := 188) dX12_hasPutting_188 (by decide) (by omega) (fun c_188 => ?_) (fun c_188 => ?_)
            · skip
              refine x_iloadn (pc := 195) dX12_hasPutting_195 rfl ?_
              refine x_iconst (pc := 196) dX12_hasPutting_196 ?_
              refine x_cle (tgt := 205) (pc := 197) dX12_hasPutting_197 (by decide) (by omega) (fun c_197 => ?_) (fun c_197 => ?_)
              · skip
                refine x_iloadn (pc := 205) dX12_hasPutting_205 rfl ?_
                refine x_putIF (pc := 206) dX12_hasPutting_206 fp_X12_237 k_127 (hL 127 (by decide) (by decide)) hF (fun hF => ?_)
                refine x_aloadn (pc := 209) dX12_hasPutting_209 rfl ?_
                refine x_getI (pc := 210) dX12_hasPutting_210 fl_X12_240 k_127 (hL 127 (by decide) (by decide)) ?_
                rw [x_up_k (by decide), x_up_s]
                refine x_iconst (pc := 213) dX12_hasPutting_213 ?_
                refine x_cle (tgt := 226) (pc := 214) dX12_hasPutting_214 (by decide) (by omega) (fun c_214 => ?_) (fun c_214 => ?_)
                · skip
                  refine x_iconst (pc := 226) dX12_hasPutting_226 ?_
                  refine x_rZ (pc := 227) dX12_hasPutting_227 rfl (by omega) ?_
                  refine ⟨by unfold zqn; (repeat' split) <;> omega, fun w => ⟨?_, ?_⟩, ((FM.rf.upF (by decide)).upF (by decide)).upF (by decide), hF⟩
                  · rw [x_up_k (by decide), x_up_s]; revert w; unfold zqn zpu; (repeat' split) <;> omega
                  · rw [x_up_s]; revert w; unfold zqn zpi; (repeat' split) <;> omega
                · skip
                  refine x_iloadn (pc := 217) dX12_hasPutting_217 rfl ?_
                  refine x_iconst (pc := 218) dX12_hasPutting_218 ?_
                  refine x_cge (tgt := 226) (pc := 219) dX12_hasPutting_219 (by decide) (by omega) (fun c_219 => ?_) (fun c_219 => ?_)
                  · skip
                    refine x_iconst (pc := 226) dX12_hasPutting_226 ?_
                    refine x_rZ (pc := 227) dX12_hasPutting_227 rfl (by omega) ?_
                    refine ⟨by unfold zqn; (repeat' split) <;> omega, fun w => ⟨?_, ?_⟩, ((FM.rf.upF (by decide)).upF (by decide)).upF (by decide), hF⟩
                    · rw [x_up_k (by decide), x_up_s]; revert w; unfold zqn zpu; (repeat' split) <;> omega
                    · rw [x_up_s]; revert w; unfold zqn zpi; (repeat' split) <;> omega
                  · skip
                    refine x_iconst (pc := 222) dX12_hasPutting_222 ?_
                    refine x_goto (tgt := 227) (pc := 223) dX12_hasPutting_223 (by decide) ?_
                    refine x_rZ (pc := 227) dX12_hasPutting_227 rfl (by omega) ?_
                    refine ⟨by unfold zqn; (repeat' split) <;> omega, fun w => ⟨?_, ?_⟩, ((FM.rf.upF (by decide)).upF (by decide)).upF (by decide), hF⟩
                    · rw [x_up_k (by decide), x_up_s]; revert w; unfold zqn zpu; (repeat' split) <;> omega
                    · rw [x_up_s]; revert w; unfold zqn zpi; (repeat' split) <;> omega
              · skip
                refine x_iload (pc := 200) dX12_hasPutting_200 rfl ?_
                refine x_goto (tgt := 206) (pc := 202) dX12_hasPutting_202 (by decide) ?_
                refine x_putIF (pc := 206) dX12_hasPutting_206 fp_X12_237 k_127 (hL 127 (by decide) (by decide)) hF (fun hF => ?_)
                refine x_aloadn (pc := 209) dX12_hasPutting_209 rfl ?_
                refine x_getI (pc := 210) dX12_hasPutting_210 fl_X12_240 k_127 (hL 127 (by decide) (by decide)) ?_
                rw [x_up_k (by decide), x_up_s]
                refine x_iconst (pc := 213) dX12_hasPutting_213 ?_
                refine x_cle (tgt := 226) (pc := 214) dX12_hasPutting_214 (by decide) (by omega) (fun c_214 => ?_) (fun c_214 => ?_)
                · skip
                  refine x_iconst (pc := 226) dX12_hasPutting_226 ?_
                  refine x_rZ (pc := 227) dX12_hasPutting_227 rfl (by omega) ?_
                  refine ⟨by unfold zqn; (repeat' split) <;> omega, fun w => ⟨?_, ?_⟩, ((FM.rf.upF (by decide)).upF (by decide)).upF (by decide), hF⟩
                  · rw [x_up_k (by decide), x_up_s]; revert w; unfold zqn zpu; (repeat' split) <;> omega
                  · rw [x_up_s]; revert w; unfold zqn zpi; (repeat' split) <;> omega
                · skip
                  refine x_iloadn (pc := 217) dX12_hasPutting_217 rfl ?_
                  refine x_iconst (pc := 218) dX12_hasPutting_218 ?_
                  refine x_cge (tgt := 226) (pc := 219) dX12_hasPutting_219 (by decide) (by omega) (fun c_219 => ?_) (fun c_219 => ?_)
                  · skip
                    refine x_iconst (pc := 226) dX12_hasPutting_226 ?_
                    refine x_rZ (pc := 227) dX12_hasPutting_227 rfl (by omega) ?_
                    refine ⟨by unfold zqn; (repeat' split) <;> omega, fun w => ⟨?_, ?_⟩, ((FM.rf.upF (by decide)).upF (by decide)).upF (by decide), hF⟩
                    · rw [x_up_k (by decide), x_up_s]; revert w; unfold zqn zpu; (repeat' split) <;> omega
                    · rw [x_up_s]; revert w; unfold zqn zpi; (repeat' split) <;> omega
                  · skip
                    refine x_iconst (pc := 222) dX12_hasPutting_222 ?_
                    refine x_goto (tgt := 227) (pc := 223) dX12_hasPutting_223 (by decide) ?_
                    refine x_rZ (pc := 227) dX12_hasPutting_227 rfl (by omega) ?_
                    refine ⟨by unfold zqn; (repeat' split) <;> omega, fun w => ⟨?_, ?_⟩, ((FM.rf.upF (by decide)).upF (by decide)).upF (by decide), hF⟩
                    · rw [x_up_k (by decide), x_up_s]; revert w; unfold zqn zpu; (repeat' split) <;> omega
                    · rw [x_up_s]; revert w; unfold zqn zpi; (repeat' split) <;> omega
            · skip
              refine x_iconst (pc := 191) dX12_hasPutting_191 ?_
              refine x_goto (tgt := 206) (pc := 192) dX12_hasPutting_192 (by decide) ?_
              refine x_putIF (pc := 206) dX12_hasPutting_206 fp_X12_237 k_127 (hL 127 (by decide) (by decide)) hF (fun hF => ?_)
              refine x_aloadn (pc := 209) dX12_hasPutting_209 rfl ?_
              refine x_getI (pc := 210) dX12_hasPutting_210 fl_X12_240 k_127 (hL 127 (by decide) (by decide)) ?_
              rw [x_up_k (by decide), x_up_s]
              refine x_iconst (pc := 213) dX12_hasPutting_213 ?_
              refine x_cle (tgt := 226) (pc := 214) dX12_hasPutting_214 (by decide) (by omega) (fun c_214 => ?_) (fun c_214 => ?_)
              · skip
                refine x_iconst (pc := 226) dX12_hasPutting_226 ?_
                refine x_rZ (pc := 227) dX12_hasPutting_227 rfl (by omega) ?_
                refine ⟨by unfold zqn; (repeat' split) <;> omega, fun w => ⟨?_, ?_⟩, ((FM.rf.upF (by decide)).upF (by decide)).upF (by decide), hF⟩
                · rw [x_up_k (by decide), x_up_s]; revert w; unfold zqn zpu; (repeat' split) <;> omega
                · rw [x_up_s]; revert w; unfold zqn zpi; (repeat' split) <;> omega
              · skip
                refine x_iloadn (pc := 217) dX12_hasPutting_217 rfl ?_
                refine x_iconst (pc := 218) dX12_hasPutting_218 ?_
                refine x_cge (tgt := 226) (pc := 219) dX12_hasPutting_219 (by decide) (by omega) (fun c_219 => ?_) (fun c_219 => ?_)
                · skip
                  refine x_iconst (pc := 226) dX12_hasPutting_226 ?_
                  refine x_rZ (pc := 227) dX12_hasPutting_227 rfl (by omega) ?_
                  refine ⟨by unfold zqn; (repeat' split) <;> omega, fun w => ⟨?_, ?_⟩, ((FM.rf.upF (by decide)).upF (by decide)).upF (by decide), hF⟩
                  · rw [x_up_k (by decide), x_up_s]; revert w; unfold zqn zpu; (repeat' split) <;> omega
                  · rw [x_up_s]; revert w; unfold zqn zpi; (repeat' split) <;> omega
                · skip
                  refine x_iconst (pc := 222) dX12_hasPutting_222 ?_
                  refine x_goto (tgt := 227) (pc := 223) dX12_hasPutting_223 (by decide) ?_
                  refine x_rZ (pc := 227) dX12_hasPutting_227 rfl (by omega) ?_
                  refine ⟨by unfold zqn; (repeat' split) <;> omega, fun w => ⟨?_, ?_⟩, ((FM.rf.upF (by decide)).upF (by decide)).upF (by decide), hF⟩
                  · rw [x_up_k (by decide), x_up_s]; revert w; unfold zqn zpu; (repeat' split) <;> omega
                  · rw [x_up_s]; revert w; unfold zqn zpi; (repeat' split) <;> omega
          · skip
            refine x_iloadn (pc := 177) dX12_hasPutting_177 rfl ?_
            refine x_goto (tgt := 183) (pc := 178) dX12_hasPutting_178 (by decide) ?_
            refine x_putIF (pc := 183) dX12_hasPutting_183 fp_X12_240 k_127 (hL 127 (by decide) (by decide)) hF (fun hF => ?_)
            refine x_aloadn (pc := 186) dX12_hasPutting_186 rfl ?_
            refine x_iloadn (pc := 187) dX12_hasPutting_187 rfl ?_
            refine x_ine (tgt := 195) (pc := 188) dX12_hasPutting_188 (by decide) (by omega) (fun c_188 => ?_) (fun c_188 => ?_)
            · skip
              refine x_iloadn (pc := 195) dX12_hasPutting_195 rfl ?_
              refine x_iconst (pc := 196) dX12_hasPutting_196 ?_
              refine x_cle (tgt := 205) (pc := 197) dX12_hasPutting_197 (by decide) (by omega) (fun c_197 => ?_) (fun c_197 => ?_)
              · skip
                refine x_iloadn (pc := 205) dX12_hasPutting_205 rfl ?_
                refine x_putIF (pc := 206) dX12_hasPutting_206 fp_X12_237 k_127 (hL 127 (by decide) (by decide)) hF (fun hF => ?_)
                refine x_aloadn (pc := 209) dX12_hasPutting_209 rfl ?_
                refine x_getI (pc := 210) dX12_hasPutting_210 fl_X12_240 k_127 (hL 127 (by decide) (by decide)) ?_
                rw [x_up_k (by decide), x_up_s]
                refine x_iconst (pc := 213) dX12_hasPutting_213 ?_
                refine x_cle (tgt := 226) (pc := 214) dX12_hasPutting_214 (by decide) (by omega) (fun c_214 => ?_) (fun c_214 => ?_)
                · skip
                  refine x_iconst (pc := 226) dX12_hasPutting_226 ?_
                  refine x_rZ (pc := 227) dX12_hasPutting_227 rfl (by omega) ?_
                  refine ⟨by unfold zqn; (repeat' split) <;> omega, fun w => ⟨?_, ?_⟩, ((FM.rf.upF (by decide)).upF (by decide)).upF (by decide), hF⟩
                  · rw [x_up_k (by decide), x_up_s]; revert w; unfold zqn zpu; (repeat' split) <;> omega
                  · rw [x_up_s]; revert w; unfold zqn zpi; (repeat' split) <;> omega
                · skip
                  refine x_iloadn (pc := 217) dX12_hasPutting_217 rfl ?_
                  refine x_iconst (pc := 218) dX12_hasPutting_218 ?_
                  refine x_cge (tgt := 226) (pc := 219) dX12_hasPutting_219 (by decide) (by omega) (fun c_219 => ?_) (fun c_219 => ?_)
                  · skip
                    refine x_iconst (pc := 226) dX12_hasPutting_226 ?_
                    refine x_rZ (pc := 227) dX12_hasPutting_227 rfl (by omega) ?_
                    refine ⟨by unfold zqn; (repeat' split) <;> omega, fun w => ⟨?_, ?_⟩, ((FM.rf.upF (by decide)).upF (by decide)).upF (by decide), hF⟩
                    · rw [x_up_k (by decide), x_up_s]; revert w; unfold zqn zpu; (repeat' split) <;> omega
                    · rw [x_up_s]; revert w; unfold zqn zpi; (repeat' split) <;> omega
                  · skip
                    refine x_iconst (pc := 222) dX12_hasPutting_222 ?_
                    refine x_goto (tgt := 227) (pc := 223) dX12_hasPutting_223 (by decide) ?_
                    refine x_rZ (pc := 227) dX12_hasPutting_227 rfl (by omega) ?_
                    refine ⟨by unfold zqn; (repeat' split) <;> omega, fun w => ⟨?_, ?_⟩, ((FM.rf.upF (by decide)).upF (by decide)).upF (by decide), hF⟩
                    · rw [x_up_k (by decide), x_up_s]; revert w; unfold zqn zpu; (repeat' split) <;> omega
                    · rw [x_up_s]; revert w; unfold zqn zpi; (repeat' split) <;> omega
              · skip
                refine x_iload (pc := 200) dX12_hasPutting_200 rfl ?_
                refine x_goto (tgt := 206) (pc := 202) dX12_hasPutting_202 (by decide) ?_
                refine x_putIF (pc := 206) dX12_hasPutting_206 fp_X12_237 k_127 (hL 127 (by decide) (by decide)) hF (fun hF => ?_)
                refine x_aloadn (pc := 209) dX12_hasPutting_209 rfl ?_
                refine x_getI (pc := 210) dX12_hasPutting_210 fl_X12_240 k_127 (hL 127 (by decide) (by decide)) ?_
                rw [x_up_k (by decide), x_up_s]
                refine x_iconst (pc := 213) dX12_hasPutting_213 ?_
                refine x_cle (tgt := 226) (pc := 214) dX12_hasPutting_214 (by decide) (by omega) (fun c_214 => ?_) (fun c_214 => ?_)
                · skip
                  refine x_iconst (pc := 226) dX12_hasPutting_226 ?_
                  refine x_rZ (pc := 227) dX12_hasPutting_227 rfl (by omega) ?_
                  refine ⟨by unfold zqn; (repeat' split) <;> omega, fun w => ⟨?_, ?_⟩, ((FM.rf.upF (by decide)).upF (by decide)).upF (by decide), hF⟩
                  · rw [x_up_k (by decide), x_up_s]; revert w; unfold zqn zpu; (repeat' split) <;> omega
                  · rw [x_up_s]; revert w; unfold zqn zpi; (repeat' split) <;> omega
                · skip
                  refine x_iloadn (pc := 217) dX12_hasPutting_217 rfl ?_
                  refine x_iconst (pc := 218) dX12_hasPutting_218 ?_
                  refine x_cge (tgt := 226) (pc := 219) dX12_hasPutting_219 (by decide) (by omega) (fun c_219 => ?_) (fun c_219 => ?_)
                  · skip
                    refine x_iconst (pc := 226) dX12_hasPutting_226 ?_
                    refine x_rZ (pc := 227) dX12_hasPutting_227 rfl (by omega) ?_
                    refine ⟨by unfold zqn; (repeat' split) <;> omega, fun w => ⟨?_, ?_⟩, ((FM.rf.upF (by decide)).upF (by decide)).upF (by decide), hF⟩
                    · rw [x_up_k (by decide), x_up_s]; revert w; unfold zqn zpu; (repeat' split) <;> omega
                    · rw [x_up_s]; revert w; unfold zqn zpi; (repeat' split) <;> omega
                  · skip
                    refine x_iconst (pc := 222) dX12_hasPutting_222 ?_
                    refine x_goto (tgt := 227) (pc := 223) dX12_hasPutting_223 (by decide) ?_
                    refine x_rZ (pc := 227) dX12_hasPutting_227 rfl (by omega) ?_
                    refine ⟨by unfold zqn; (repeat' split) <;> omega, fun w => ⟨?_, ?_⟩, ((FM.rf.upF (by decide)).upF (by decide)).upF (by decide), hF⟩
                    · rw [x_up_k (by decide), x_up_s]; revert w; unfold zqn zpu; (repeat' split) <;> omega
                    · rw [x_up_s]; revert w; unfold zqn zpi; (repeat' split) <;> omega
            · skip
              refine x_iconst (pc := 191) dX12_hasPutting_191 ?_
              refine x_goto (tgt := 206) (pc := 192) dX12_hasPutting_192 (by decide) ?_
              refine x_putIF (pc := 206) dX12_hasPutting_206 fp_X12_237 k_127 (hL 127 (by decide) (by decide)) hF (fun hF => ?_)
              refine x_aloadn (pc := 209) dX12_hasPutting_209 rfl ?_
              refine x_getI (pc := 210) dX12_hasPutting_210 fl_X12_240 k_127 (hL 127 (by decide) (by decide)) ?_
              rw [x_up_k (by decide), x_up_s]
              refine x_iconst (pc := 213) dX12_hasPutting_213 ?_
              refine x_cle (tgt := 226) (pc := 214) dX12_hasPutting_214 (by decide) (by omega) (fun c_214 => ?_) (fun c_214 => ?_)
              · skip
                refine x_iconst (pc := 226) dX12_hasPutting_226 ?_
                refine x_rZ (pc := 227) dX12_hasPutting_227 rfl (by omega) ?_
                refine ⟨by unfold zqn; (repeat' split) <;> omega, fun w => ⟨?_, ?_⟩, ((FM.rf.upF (by decide)).upF (by decide)).upF (by decide), hF⟩
                · rw [x_up_k (by decide), x_up_s]; revert w; unfold zqn zpu; (repeat' split) <;> omega
                · rw [x_up_s]; revert w; unfold zqn zpi; (repeat' split) <;> omega
              · skip
                refine x_iloadn (pc := 217) dX12_hasPutting_217 rfl ?_
                refine x_iconst (pc := 218) dX12_hasPutting_218 ?_
                refine x_cge (tgt := 226) (pc := 219) dX12_hasPutting_219 (by decide) (by omega) (fun c_219 => ?_) (fun c_219 => ?_)
                · skip
                  refine x_iconst (pc := 226) dX12_hasPutting_226 ?_
                  refine x_rZ (pc := 227) dX12_hasPutting_227 rfl (by omega) ?_
                  refine ⟨by unfold zqn; (repeat' split) <;> omega, fun w => ⟨?_, ?_⟩, ((FM.rf.upF (by decide)).upF (by decide)).upF (by decide), hF⟩
                  · rw [x_up_k (by decide), x_up_s]; revert w; unfold zqn zpu; (repeat' split) <;> omega
                  · rw [x_up_s]; revert w; unfold zqn zpi; (repeat' split) <;> omega
                · skip
                  refine x_iconst (pc := 222) dX12_hasPutting_222 ?_
                  refine x_goto (tgt := 227) (pc := 223) dX12_hasPutting_223 (by decide) ?_
                  refine x_rZ (pc := 227) dX12_hasPutting_227 rfl (by omega) ?_
                  refine ⟨by unfold zqn; (repeat' split) <;> omega, fun w => ⟨?_, ?_⟩, ((FM.rf.upF (by decide)).upF (by decide)).upF (by decide), hF⟩
                  · rw [x_up_k (by decide), x_up_s]; revert w; unfold zqn zpu; (repeat' split) <;> omega
                  · rw [x_up_s]; revert w; unfold zqn zpi; (repeat' split) <;> omega
        · skip
          refine x_aloadn (pc := 120) dX12_hasPutting_120 rfl ?_
          refine x_iloadn (pc := 121) dX12_hasPutting_121 rfl ?_
          refine x_iconst (pc := 122) dX12_hasPutting_122 ?_
          refine x_irem (pc := 123) dX12_hasPutting_123 (by omega) ?_
          refine x_ine (tgt := 131) (pc := 124) dX12_hasPutting_124 (by decide) (by omega) (fun c_124 => ?_) (fun c_124 => ?_)
          · skip
            refine x_iload (pc := 131) dX12_hasPutting_131 rfl ?_
            refine x_putIF (pc := 133) dX12_hasPutting_133 fp_X12_240 k_127 (hL 127 (by decide) (by decide)) hF (fun hF => ?_)
            refine x_aloadn (pc := 136) dX12_hasPutting_136 rfl ?_
            refine x_iloadn (pc := 137) dX12_hasPutting_137 rfl ?_
            refine x_iconst (pc := 138) dX12_hasPutting_138 ?_
            refine x_cge (tgt := 146) (pc := 139) dX12_hasPutting_139 (by decide) (by omega) (fun c_139 => ?_) (fun c_139 => ?_)
            · skip
              refine x_iloadn (pc := 146) dX12_hasPutting_146 rfl ?_
              refine x_iconst (pc := 147) dX12_hasPutting_147 ?_
              refine x_cne (tgt := 156) (pc := 148) dX12_hasPutting_148 (by decide) (by omega) (fun c_148 => ?_) (fun c_148 => ?_)
              · skip
                refine x_iloadn (pc := 156) dX12_hasPutting_156 rfl ?_
                refine x_putIF (pc := 157) dX12_hasPutting_157 fp_X12_237 k_127 (hL 127 (by decide) (by decide)) hF (fun hF => ?_)
                refine x_iloadn (pc := 160) dX12_hasPutting_160 rfl ?_
                refine x_iconst (pc := 161) dX12_hasPutting_161 ?_
                refine x_cge (tgt := 169) (pc := 162) dX12_hasPutting_162 (by decide) (by omega) (fun c_162 => ?_) (fun c_162 => ?_)
                · skip
                  refine x_iconst (pc := 169) dX12_hasPutting_169 ?_
                  refine x_rZ (pc := 170) dX12_hasPutting_170 rfl (by omega) ?_
                  refine ⟨by unfold zqn; (repeat' split) <;> omega, fun w => ⟨?_, ?_⟩, ((FM.rf.upF (by decide)).upF (by decide)).upF (by decide), hF⟩
                  · rw [x_up_k (by decide), x_up_s]; revert w; unfold zqn zpu; (repeat' split) <;> omega
                  · rw [x_up_s]; revert w; unfold zqn zpi; (repeat' split) <;> omega
                · skip
                  refine x_iconst (pc := 165) dX12_hasPutting_165 ?_
                  refine x_goto (tgt := 170) (pc := 166) dX12_hasPutting_166 (by decide) ?_
                  refine x_rZ (pc := 170) dX12_hasPutting_170 rfl (by omega) ?_
                  refine ⟨by unfold zqn; (repeat' split) <;> omega, fun w => ⟨?_, ?_⟩, ((FM.rf.upF (by decide)).upF (by decide)).upF (by decide), hF⟩
                  · rw [x_up_k (by decide), x_up_s]; revert w; unfold zqn zpu; (repeat' split) <;> omega
                  · rw [x_up_s]; revert w; unfold zqn zpi; (repeat' split) <;> omega
              · skip
                refine x_iload (pc := 151) dX12_hasPutting_151 rfl ?_
                refine x_goto (tgt := 157) (pc := 153) dX12_hasPutting_153 (by decide) ?_
                refine x_putIF (pc := 157) dX12_hasPutting_157 fp_X12_237 k_127 (hL 127 (by decide) (by decide)) hF (fun hF => ?_)
                refine x_iloadn (pc := 160) dX12_hasPutting_160 rfl ?_
                refine x_iconst (pc := 161) dX12_hasPutting_161 ?_
                refine x_cge (tgt := 169) (pc := 162) dX12_hasPutting_162 (by decide) (by omega) (fun c_162 => ?_) (fun c_162 => ?_)
                · skip
                  refine x_iconst (pc := 169) dX12_hasPutting_169 ?_
                  refine x_rZ (pc := 170) dX12_hasPutting_170 rfl (by omega) ?_
                  refine ⟨by unfold zqn; (repeat' split) <;> omega, fun w => ⟨?_, ?_⟩, ((FM.rf.upF (by decide)).upF (by decide)).upF (by decide), hF⟩
                  · rw [x_up_k (by decide), x_up_s]; revert w; unfold zqn zpu; (repeat' split) <;> omega
                  · rw [x_up_s]; revert w; unfold zqn zpi; (repeat' split) <;> omega
                · skip
                  refine x_iconst (pc := 165) dX12_hasPutting_165 ?_
                  refine x_goto (tgt := 170) (pc := 166) dX12_hasPutting_166 (by decide) ?_
                  refine x_rZ (pc := 170) dX12_hasPutting_170 rfl (by omega) ?_
                  refine ⟨by unfold zqn; (repeat' split) <;> omega, fun w => ⟨?_, ?_⟩, ((FM.rf.upF (by decide)).upF (by decide)).upF (by decide), hF⟩
                  · rw [x_up_k (by decide), x_up_s]; revert w; unfold zqn zpu; (repeat' split) <;> omega
                  · rw [x_up_s]; revert w; unfold zqn zpi; (repeat' split) <;> omega
            · skip
              refine x_iconst (pc := 142) dX12_hasPutting_142 ?_
              refine x_goto (tgt := 157) (pc := 143) dX12_hasPutting_143 (by decide) ?_
              refine x_putIF (pc := 157) dX12_hasPutting_157 fp_X12_237 k_127 (hL 127 (by decide) (by decide)) hF (fun hF => ?_)
              refine x_iloadn (pc := 160) dX12_hasPutting_160 rfl ?_
              refine x_iconst (pc := 161) dX12_hasPutting_161 ?_
              refine x_cge (tgt := 169) (pc := 162) dX12_hasPutting_162 (by decide) (by omega) (fun c_162 => ?_) (fun c_162 => ?_)
              · skip
                refine x_iconst (pc := 169) dX12_hasPutting_169 ?_
                refine x_rZ (pc := 170) dX12_hasPutting_170 rfl (by omega) ?_
                refine ⟨by unfold zqn; (repeat' split) <;> omega, fun w => ⟨?_, ?_⟩, ((FM.rf.upF (by decide)).upF (by decide)).upF (by decide), hF⟩
                · rw [x_up_k (by decide), x_up_s]; revert w; unfold zqn zpu; (repeat' split) <;> omega
                · rw [x_up_s]; revert w; unfold zqn zpi; (repeat' split) <;> omega
              · skip
                refine x_iconst (pc := 165) dX12_hasPutting_165 ?_
                refine x_goto (tgt := 170) (pc := 166) dX12_hasPutting_166 (by decide) ?_
                refine x_rZ (pc := 170) dX12_hasPutting_170 rfl (by omega) ?_
                refine ⟨by unfold zqn; (repeat' split) <;> omega, fun w => ⟨?_, ?_⟩, ((FM.rf.upF (by decide)).upF (by decide)).upF (by decide), hF⟩
                · rw [x_up_k (by decide), x_up_s]; revert w; unfold zqn zpu; (repeat' split) <;> omega
                · rw [x_up_s]; revert w; unfold zqn zpi; (repeat' split) <;> omega
          · skip
            refine x_iloadn (pc := 127) dX12_hasPutting_127 rfl ?_
            refine x_goto (tgt := 133) (pc := 128) dX12_hasPutting_128 (by decide) ?_
            refine x_putIF (pc := 133) dX12_hasPutting_133 fp_X12_240 k_127 (hL 127 (by decide) (by decide)) hF (fun hF => ?_)
            refine x_aloadn (pc := 136) dX12_hasPutting_136 rfl ?_
            refine x_iloadn (pc := 137) dX12_hasPutting_137 rfl ?_
            refine x_iconst (pc := 138) dX12_hasPutting_138 ?_
            refine x_cge (tgt := 146) (pc := 139) dX12_hasPutting_139 (by decide) (by omega) (fun c_139 => ?_) (fun c_139 => ?_)
            · skip
              refine x_iloadn (pc := 146) dX12_hasPutting_146 rfl ?_
              refine x_iconst (pc := 147) dX12_hasPutting_147 ?_
              refine x_cne (tgt := 156) (pc := 148) dX12_hasPutting_148 (by decide) (by omega) (fun c_148 => ?_) (fun c_148 => ?_)
              · skip
                refine x_iloadn (pc := 156) dX12_hasPutting_156 rfl ?_
                refine x_putIF (pc := 157) dX12_hasPutting_157 fp_X12_237 k_127 (hL 127 (by decide) (by decide)) hF (fun hF => ?_)
                refine x_iloadn (pc := 160) dX12_hasPutting_160 rfl ?_
                refine x_iconst (pc := 161) dX12_hasPutting_161 ?_
                refine x_cge (tgt := 169) (pc := 162) dX12_hasPutting_162 (by decide) (by omega) (fun c_162 => ?_) (fun c_162 => ?_)
                · skip
                  refine x_iconst (pc := 169) dX12_hasPutting_169 ?_
                  refine x_rZ (pc := 170) dX12_hasPutting_170 rfl (by omega) ?_
                  refine ⟨by unfold zqn; (repeat' split) <;> omega, fun w => ⟨?_, ?_⟩, ((FM.rf.upF (by decide)).upF (by decide)).upF (by decide), hF⟩
                  · rw [x_up_k (by decide), x_up_s]; revert w; unfold zqn zpu; (repeat' split) <;> omega
                  · rw [x_up_s]; revert w; unfold zqn zpi; (repeat' split) <;> omega
                · skip
                  refine x_iconst (pc := 165) dX12_hasPutting_165 ?_
                  refine x_goto (tgt := 170) (pc := 166) dX12_hasPutting_166 (by decide) ?_
                  refine x_rZ (pc := 170) dX12_hasPutting_170 rfl (by omega) ?_
                  refine ⟨by unfold zqn; (repeat' split) <;> omega, fun w => ⟨?_, ?_⟩, ((FM.rf.upF (by decide)).upF (by decide)).upF (by decide), hF⟩
                  · rw [x_up_k (by decide), x_up_s]; revert w; unfold zqn zpu; (repeat' split) <;> omega
                  · rw [x_up_s]; revert w; unfold zqn zpi; (repeat' split) <;> omega
              · skip
                refine x_iload (pc := 151) dX12_hasPutting_151 rfl ?_
                refine x_goto (tgt := 157) (pc := 153) dX12_hasPutting_153 (by decide) ?_
                refine x_putIF (pc := 157) dX12_hasPutting_157 fp_X12_237 k_127 (hL 127 (by decide) (by decide)) hF (fun hF => ?_)
                refine x_iloadn (pc := 160) dX12_hasPutting_160 rfl ?_
                refine x_iconst (pc := 161) dX12_hasPutting_161 ?_
                refine x_cge (tgt := 169) (pc := 162) dX12_hasPutting_162 (by decide) (by omega) (fun c_162 => ?_) (fun c_162 => ?_)
                · skip
                  refine x_iconst (pc := 169) dX12_hasPutting_169 ?_
                  refine x_rZ (pc := 170) dX12_hasPutting_170 rfl (by omega) ?_
                  refine ⟨by unfold zqn; (repeat' split) <;> omega, fun w => ⟨?_, ?_⟩, ((FM.rf.upF (by decide)).upF (by decide)).upF (by decide), hF⟩
                  · rw [x_up_k (by decide), x_up_s]; revert w; unfold zqn zpu; (repeat' split) <;> omega
                  · rw [x_up_s]; revert w; unfold zqn zpi; (repeat' split) <;> omega
                · skip
                  refine x_iconst (pc := 165) dX12_hasPutting_165 ?_
                  refine x_goto (tgt := 170) (pc := 166) dX12_hasPutting_166 (by decide) ?_
                  refine x_rZ (pc := 170) dX12_hasPutting_170 rfl (by omega) ?_
                  refine ⟨by unfold zqn; (repeat' split) <;> omega, fun w => ⟨?_, ?_⟩, ((FM.rf.upF (by decide)).upF (by decide)).upF (by decide), hF⟩
                  · rw [x_up_k (by decide), x_up_s]; revert w; unfold zqn zpu; (repeat' split) <;> omega
                  · rw [x_up_s]; revert w; unfold zqn zpi; (repeat' split) <;> omega
            · skip
              refine x_iconst (pc := 142) dX12_hasPutting_142 ?_
              refine x_goto (tgt := 157) (pc := 143) dX12_hasPutting_143 (by decide) ?_
              refine x_putIF (pc := 157) dX12_hasPutting_157 fp_X12_237 k_127 (hL 127 (by decide) (by decide)) hF (fun hF => ?_)
              refine x_iloadn (pc := 160) dX12_hasPutting_160 rfl ?_
              refine x_iconst (pc := 161) dX12_hasPutting_161 ?_
              refine x_cge (tgt := 169) (pc := 162) dX12_hasPutting_162 (by decide) (by omega) (fun c_162 => ?_) (fun c_162 => ?_)
              · skip
                refine x_iconst (pc := 169) dX12_hasPutting_169 ?_
                refine x_rZ (pc := 170) dX12_hasPutting_170 rfl (by omega) ?_
                refine ⟨by unfold zqn; (repeat' split) <;> omega, fun w => ⟨?_, ?_⟩, ((FM.rf.upF (by decide)).upF (by decide)).upF (by decide), hF⟩
                · rw [x_up_k (by decide), x_up_s]; revert w; unfold zqn zpu; (repeat' split) <;> omega
                · rw [x_up_s]; revert w; unfold zqn zpi; (repeat' split) <;> omega
              · skip
                refine x_iconst (pc := 165) dX12_hasPutting_165 ?_
                refine x_goto (tgt := 170) (pc := 166) dX12_hasPutting_166 (by decide) ?_
                refine x_rZ (pc := 170) dX12_hasPutting_170 rfl (by omega) ?_
                refine ⟨by unfold zqn; (repeat' split) <;> omega, fun w => ⟨?_, ?_⟩, ((FM.rf.upF (by decide)).upF (by decide)).upF (by decide), hF⟩
                · rw [x_up_k (by decide), x_up_s]; revert w; unfold zqn zpu; (repeat' split) <;> omega
                · rw [x_up_s]; revert w; unfold zqn zpi; (repeat' split) <;> omega
    · skip
      refine x_aloadn (pc := 76) dX12_hasPutting_76 rfl ?_
      refine x_iloadn (pc := 77) dX12_hasPutting_77 rfl ?_
      refine x_iconst (pc := 78) dX12_hasPutting_78 ?_
      refine x_cne (tgt := 87) (pc := 79) dX12_hasPutting_79 (by decide) (by omega) (fun c_79 => ?_) (fun c_79 => ?_)
      · skip
        refine x_iloadn (pc := 87) dX12_hasPutting_87 rfl ?_
        refine x_putIF (pc := 88) dX12_hasPutting_88 fp_X12_240 k_127 (hL 127 (by decide) (by decide)) hF (fun hF => ?_)
        refine x_iloadn (pc := 91) dX12_hasPutting_91 rfl ?_
        refine x_ine (tgt := 107) (pc := 92) dX12_hasPutting_92 (by decide) (by omega) (fun c_92 => ?_) (fun c_92 => ?_)
        · skip
          refine x_iconst (pc := 107) dX12_hasPutting_107 ?_
          refine x_rZ (pc := 108) dX12_hasPutting_108 rfl (by omega) ?_
          refine ⟨by unfold zqn; (repeat' split) <;> omega, fun w => ⟨?_, ?_⟩, (FM.rf.upF (by decide)).upF (by decide), hF⟩
          · rw [x_up_s]; revert w; unfold zqn zpu; (repeat' split) <;> omega
          · rw [x_up_k (by decide), x_up_s]; revert w; unfold zqn zpi; (repeat' split) <;> omega
        · skip
          refine x_aloadn (pc := 95) dX12_hasPutting_95 rfl ?_
          refine x_getI (pc := 96) dX12_hasPutting_96 fl_X12_240 k_127 (hL 127 (by decide) (by decide)) ?_
          rw [x_up_s]
          refine x_iconst (pc := 99) dX12_hasPutting_99 ?_
          refine x_cle (tgt := 107) (pc := 100) dX12_hasPutting_100 (by decide) (by omega) (fun c_100 => ?_) (fun c_100 => ?_)
          · skip
            refine x_iconst (pc := 107) dX12_hasPutting_107 ?_
            refine x_rZ (pc := 108) dX12_hasPutting_108 rfl (by omega) ?_
            refine ⟨by unfold zqn; (repeat' split) <;> omega, fun w => ⟨?_, ?_⟩, (FM.rf.upF (by decide)).upF (by decide), hF⟩
            · rw [x_up_s]; revert w; unfold zqn zpu; (repeat' split) <;> omega
            · rw [x_up_k (by decide), x_up_s]; revert w; unfold zqn zpi; (repeat' split) <;> omega
          · skip
            refine x_iconst (pc := 103) dX12_hasPutting_103 ?_
            refine x_goto (tgt := 108) (pc := 104) dX12_hasPutting_104 (by decide) ?_
            refine x_rZ (pc := 108) dX12_hasPutting_108 rfl (by omega) ?_
            refine ⟨by unfold zqn; (repeat' split) <;> omega, fun w => ⟨?_, ?_⟩, (FM.rf.upF (by decide)).upF (by decide), hF⟩
            · rw [x_up_s]; revert w; unfold zqn zpu; (repeat' split) <;> omega
            · rw [x_up_k (by decide), x_up_s]; revert w; unfold zqn zpi; (repeat' split) <;> omega
      · skip
        refine x_iload (pc := 82) dX12_hasPutting_82 rfl ?_
        refine x_goto (tgt := 88) (pc := 84) dX12_hasPutting_84 (by decide) ?_
        refine x_putIF (pc := 88) dX12_hasPutting_88 fp_X12_240 k_127 (hL 127 (by decide) (by decide)) hF (fun hF => ?_)
        refine x_iloadn (pc := 91) dX12_hasPutting_91 rfl ?_
        refine x_ine (tgt := 107) (pc := 92) dX12_hasPutting_92 (by decide) (by omega) (fun c_92 => ?_) (fun c_92 => ?_)
        · skip
          refine x_iconst (pc := 107) dX12_hasPutting_107 ?_
          refine x_rZ (pc := 108) dX12_hasPutting_108 rfl (by omega) ?_
          refine ⟨by unfold zqn; (repeat' split) <;> omega, fun w => ⟨?_, ?_⟩, (FM.rf.upF (by decide)).upF (by decide), hF⟩
          · rw [x_up_s]; revert w; unfold zqn zpu; (repeat' split) <;> omega
          · rw [x_up_k (by decide), x_up_s]; revert w; unfold zqn zpi; (repeat' split) <;> omega
        · skip
          refine x_aloadn (pc := 95) dX12_hasPutting_95 rfl ?_
          refine x_getI (pc := 96) dX12_hasPutting_96 fl_X12_240 k_127 (hL 127 (by decide) (by decide)) ?_
          rw [x_up_s]
          refine x_iconst (pc := 99) dX12_hasPutting_99 ?_
          refine x_cle (tgt := 107) (pc := 100) dX12_hasPutting_100 (by decide) (by omega) (fun c_100 => ?_) (fun c_100 => ?_)
          · skip
            refine x_iconst (pc := 107) dX12_hasPutting_107 ?_
            refine x_rZ (pc := 108) dX12_hasPutting_108 rfl (by omega) ?_
            refine ⟨by unfold zqn; (repeat' split) <;> omega, fun w => ⟨?_, ?_⟩, (FM.rf.upF (by decide)).upF (by decide), hF⟩
            · rw [x_up_s]; revert w; unfold zqn zpu; (repeat' split) <;> omega
            · rw [x_up_k (by decide), x_up_s]; revert w; unfold zqn zpi; (repeat' split) <;> omega
          · skip
            refine x_iconst (pc := 103) dX12_hasPutting_103 ?_
            refine x_goto (tgt := 108) (pc := 104) dX12_hasPutting_104 (by decide) ?_
            refine x_rZ (pc := 108) dX12_hasPutting_108 rfl (by omega) ?_
            refine ⟨by unfold zqn; (repeat' split) <;> omega, fun w => ⟨?_, ?_⟩, (FM.rf.upF (by decide)).upF (by decide), hF⟩
            · rw [x_up_s]; revert w; unfold zqn zpu; (repeat' split) <;> omega
            · rw [x_up_k (by decide), x_up_s]; revert w; unfold zqn zpi; (repeat' split) <;> omega
theorem c_mo_hasPutting {j : Nat} {G : Nat → Nat → Int} (hL : x_SL L) (hF : x_Fin xFL G) (h : mGn ns G) (hk : ns[k]? = some s) (hk15 : k < 1500) (hv : zvS s) (hj : j < 4) :
    CM yX12_hasPutting mX12_hasPutting 0 0 0 [vR 127, vI k, vI j] L G (pHp L G (zhd s.1) (zhd s.2) j) := by
  obtain ⟨h1, h2, h3⟩ := h k s hk
  have hl24 := hv.2.2.1
  have ha := zhd_bd hv.b8.1
  have hb := zhd_bd hv.b8.2
  have e0 : 0 < s.1.length → G 148 (24 * k) = zhd s.1 := fun w => by
    have e := h3 0 (by omega)
    rw [Nat.add_zero, zgd_l w] at e
    rw [e, zhd_at, if_pos w]
  have e1 : 0 < s.2.length → G 148 (24 * k + s.1.length) = zhd s.2 := fun w => by
    have e := h3 s.1.length (by omega)
    rw [zgd_r (Nat.le_refl _), Nat.sub_self] at e
    rw [e, zhd_at, if_pos w]
  have n0 : ¬ 0 < s.1.length → zhd s.1 = -1 := fun w => by rw [zhd_at, if_neg w]
  have n1 : ¬ 0 < s.2.length → zhd s.2 = -1 := fun w => by rw [zhd_at, if_neg w]
  have i0 : 24 * ((k : Nat) : Int) = ((24 * k : Nat) : Int) := by omega
  have i1 : 24 * ((k : Nat) : Int) + ((s.1.length : Nat) : Int) = ((24 * k + s.1.length : Nat) : Int) := by omega
  have mid : ∀ o4 : Option (Nat × Int), X mX12_hasPutting 0 0 0 (pHp L G (zhd s.1) (zhd s.2) j) 22 [some (vR 127), some (vI k), some (vI j), none, o4] [vI (zhd s.1)] L G 0 0 := by
    intro o4
    refine x_istoren (pc := 22) dX12_hasPutting_22 rfl (by decide) rfl ?_
    refine x_aloadn (pc := 23) dX12_hasPutting_23 rfl ?_
    refine x_getR (150) (pc := 24) dX12_hasPutting_24 fl_X12_77 k_127 (hL 127 (by decide) (by decide)) (f_127_28 hF) ?_
    refine x_iloadn (pc := 27) dX12_hasPutting_27 rfl ?_
    refine x_iald (k) (pc := 28) dX12_hasPutting_28 k_150 (hL 150 (by decide) (by decide)) (⟨by omega, by omega, by decide⟩) ?_
    rw [h2]
    refine x_aloadn (pc := 29) dX12_hasPutting_29 rfl ?_
    refine x_getR (149) (pc := 30) dX12_hasPutting_30 fl_X12_74 k_127 (hL 127 (by decide) (by decide)) (f_127_27 hF) ?_
    refine x_iloadn (pc := 33) dX12_hasPutting_33 rfl ?_
    refine x_iald (k) (pc := 34) dX12_hasPutting_34 k_149 (hL 149 (by decide) (by decide)) (⟨by omega, by omega, by decide⟩) ?_
    rw [h1]
    refine x_cle (tgt := 57) (pc := 35) dX12_hasPutting_35 (by decide) (by omega) (fun c_35 => ?_) (fun c_35 => ?_)
    · skip
      refine x_iconst (pc := 57) dX12_hasPutting_57 ?_
      rw [← n1 (by omega)]
      refine x_istore (pc := 58) dX12_hasPutting_58 (by decide) rfl ?_
      exact l_mo_hp hL hF ha hb hj
    · skip
      refine x_aloadn (pc := 38) dX12_hasPutting_38 rfl ?_
      refine x_getR (148) (pc := 39) dX12_hasPutting_39 fl_X12_71 k_127 (hL 127 (by decide) (by decide)) (f_127_26 hF) ?_
      refine x_bipush (pc := 42) dX12_hasPutting_42 (by decide) ?_
      refine x_iloadn (pc := 44) dX12_hasPutting_44 rfl ?_
      refine x_imul (pc := 45) dX12_hasPutting_45 ?_
      refine x_aloadn (pc := 46) dX12_hasPutting_46 rfl ?_
      refine x_getR (149) (pc := 47) dX12_hasPutting_47 fl_X12_74 k_127 (hL 127 (by decide) (by decide)) (f_127_27 hF) ?_
      refine x_iloadn (pc := 50) dX12_hasPutting_50 rfl ?_
      refine x_iald (k) (pc := 51) dX12_hasPutting_51 k_149 (hL 149 (by decide) (by decide)) (⟨by omega, by omega, by decide⟩) ?_
      rw [h1]
      refine x_iadd (pc := 52) dX12_hasPutting_52 ?_
      rw [i1]
      refine x_iald (24 * k + s.1.length) (pc := 53) dX12_hasPutting_53 k_148 (hL 148 (by decide) (by decide)) (⟨by omega, by omega, by decide⟩) ?_
      rw [e1 (by omega)]
      refine x_goto (tgt := 58) (pc := 54) dX12_hasPutting_54 (by decide) ?_
      refine x_istore (pc := 58) dX12_hasPutting_58 (by decide) rfl ?_
      exact l_mo_hp hL hF ha hb hj
  refine Ct.of_X (μ := mX12_hasPutting) rfl rfl (by decide) (fun h => by cases h) (Nat.le_of_ble_eq_true rfl) rfl ?_
  refine x_aloadn (pc := 0) dX12_hasPutting_0 rfl ?_
  refine x_getR (149) (pc := 1) dX12_hasPutting_1 fl_X12_74 k_127 (hL 127 (by decide) (by decide)) (f_127_27 hF) ?_
  refine x_iloadn (pc := 4) dX12_hasPutting_4 rfl ?_
  refine x_iald (k) (pc := 5) dX12_hasPutting_5 k_149 (hL 149 (by decide) (by decide)) (⟨by omega, by omega, by decide⟩) ?_
  rw [h1]
  refine x_ile (tgt := 21) (pc := 6) dX12_hasPutting_6 (by decide) (by omega) (fun c_6 => ?_) (fun c_6 => ?_)
  · skip
    refine x_iconst (pc := 21) dX12_hasPutting_21 ?_
    rw [← n0 (by omega)]
    exact mid _
  · skip
    refine x_aloadn (pc := 9) dX12_hasPutting_9 rfl ?_
    refine x_getR (148) (pc := 10) dX12_hasPutting_10 fl_X12_71 k_127 (hL 127 (by decide) (by decide)) (f_127_26 hF) ?_
    refine x_bipush (pc := 13) dX12_hasPutting_13 (by decide) ?_
    refine x_iloadn (pc := 15) dX12_hasPutting_15 rfl ?_
    refine x_imul (pc := 16) dX12_hasPutting_16 ?_
    rw [i0]
    refine x_iald (24 * k) (pc := 17) dX12_hasPutting_17 k_148 (hL 148 (by decide) (by decide)) (⟨by omega, by omega, by decide⟩) ?_
    rw [e0 (by omega)]
    refine x_goto (tgt := 22) (pc := 18) dX12_hasPutting_18 (by decide) ?_
    exact mid _
theorem mAB.add1 {x : Nat} {G : Nat → Nat → Int} (h : mAB A B G) : mAB (A ++ [x]) B (x_up (x_up G 155 A.length ((x : Nat) : Int)) 127 37 (((A.length : Nat) : Int) + 1)) := by
  obtain ⟨h1, h2, h3, h4⟩ := h
  refine ⟨by rw [x_up_s, List.length_append]; rfl, by rw [x_up_k (by decide), x_up_ne (by decide)]; exact h2, fun i hi => ?_, fun i hi => by rw [x_up_ne (by decide), x_up_ne (by decide)]; exact h4 i hi⟩
  rw [x_up_ne (by decide), zgd_app hi]
  rw [List.length_append, List.length_singleton] at hi
  by_cases c : i = A.length
  · rw [if_pos c, c]; exact x_up_s
  · rw [if_neg c, x_up_k c]; exact h3 i (by omega)
theorem mAB.add0 {x : Nat} {G : Nat → Nat → Int} (h : mAB A B G) : mAB A (B ++ [x]) (x_up (x_up G 156 B.length ((x : Nat) : Int)) 127 38 (((B.length : Nat) : Int) + 1)) := by
  obtain ⟨h1, h2, h3, h4⟩ := h
  refine ⟨by rw [x_up_k (by decide), x_up_ne (by decide)]; exact h1, by rw [x_up_s, List.length_append]; rfl, fun i hi => by rw [x_up_ne (by decide), x_up_ne (by decide)]; exact h3 i hi, fun i hi => ?_⟩
  rw [x_up_ne (by decide), zgd_app hi]
  rw [List.length_append, List.length_singleton] at hi
  by_cases c : i = B.length
  · rw [if_pos c, c]; exact x_up_s
  · rw [if_neg c, x_up_k c]; exact h4 i (by omega)
theorem c_mo_add1 {x : Nat} {G : Nat → Nat → Int} (hL : x_SL L) (hF : x_Fin xFL G) (h : mAB A B G) (hn : A.length < 60) :
    CM yX12_add mX12_add 0 0 0 [vR 127, vI x, vI 1] L G (qV L fun G' => mAB (A ++ [x]) B G' ∧ FM z_msS z_msF G G' ∧ x_Fin xFL G') := by
  have h1 := h.1
  refine Ct.of_X (μ := mX12_add) rfl rfl (by decide) (fun h => by cases h) (Nat.le_of_ble_eq_true rfl) rfl ?_
  refine x_iloadn (pc := 0) dX12_add_0 rfl ?_
  refine x_ieq (tgt := 27) (pc := 1) dX12_add_1 (by decide) (by omega) (fun c_1 => ?_) (fun c_1 => ?_)
  · skip
    exact absurd c_1 (by decide)
  refine x_aloadn (pc := 4) dX12_add_4 rfl ?_
  refine x_getR (155) (pc := 5) dX12_add_5 fl_X12_93 k_127 (hL 127 (by decide) (by decide)) (f_127_35 hF) ?_
  refine x_aloadn (pc := 8) dX12_add_8 rfl ?_
  refine x_getI (pc := 9) dX12_add_9 fl_X12_224 k_127 (hL 127 (by decide) (by decide)) ?_
  rw [h1]
  refine x_iloadn (pc := 12) dX12_add_12 rfl ?_
  refine x_iastF (A.length) (pc := 13) dX12_add_13 k_155 (hL 155 (by decide) (by decide)) (⟨by omega, by omega, by decide⟩) hF (fun hF => ?_)
  refine x_aloadn (pc := 14) dX12_add_14 rfl ?_
  refine x_dup (pc := 15) dX12_add_15 (fun h => by cases h) ?_
  refine x_getI (pc := 16) dX12_add_16 fl_X12_224 k_127 (hL 127 (by decide) (by decide)) ?_
  rw [x_up_ne (by decide), h1]
  refine x_iconst (pc := 19) dX12_add_19 ?_
  refine x_iadd (pc := 20) dX12_add_20 ?_
  refine x_putIF (pc := 21) dX12_add_21 fp_X12_224 k_127 (hL 127 (by decide) (by decide)) hF (fun hF => ?_)
  refine x_goto (tgt := 47) (pc := 24) dX12_add_24 (by decide) ?_
  refine x_rV (pc := 47) dX12_add_47 rfl ?_
  exact ⟨h.add1, (FM.rf.upA (by decide)).upF (by decide), hF⟩
theorem c_mo_add0 {x : Nat} {G : Nat → Nat → Int} (hL : x_SL L) (hF : x_Fin xFL G) (h : mAB A B G) (hn : B.length < 60) :
    CM yX12_add mX12_add 0 0 0 [vR 127, vI x, vI 0] L G (qV L fun G' => mAB A (B ++ [x]) G' ∧ FM z_msS z_msF G G' ∧ x_Fin xFL G') := by
  have h2 := h.2.1
  refine Ct.of_X (μ := mX12_add) rfl rfl (by decide) (fun h => by cases h) (Nat.le_of_ble_eq_true rfl) rfl ?_
  refine x_iloadn (pc := 0) dX12_add_0 rfl ?_
  refine x_ieq (tgt := 27) (pc := 1) dX12_add_1 (by decide) (by omega) (fun c_1 => ?_) (fun c_1 => ?_)
  rotate_left
  · skip
    exact absurd rfl c_1
  refine x_aloadn (pc := 27) dX12_add_27 rfl ?_
  refine x_getR (156) (pc := 28) dX12_add_28 fl_X12_96 k_127 (hL 127 (by decide) (by decide)) (f_127_36 hF) ?_
  refine x_aloadn (pc := 31) dX12_add_31 rfl ?_
  refine x_getI (pc := 32) dX12_add_32 fl_X12_227 k_127 (hL 127 (by decide) (by decide)) ?_
  rw [h2]
  refine x_iloadn (pc := 35) dX12_add_35 rfl ?_
  refine x_iastF _ (pc := 36) dX12_add_36 k_156 (hL 156 (by decide) (by decide)) (⟨rfl, by omega, by decide⟩) hF (fun hF => ?_)
  refine x_aloadn (pc := 37) dX12_add_37 rfl ?_
  refine x_dup (pc := 38) dX12_add_38 (fun h => by cases h) ?_
  refine x_getI (pc := 39) dX12_add_39 fl_X12_227 k_127 (hL 127 (by decide) (by decide)) ?_
  rw [x_up_ne (by decide), h2]
  refine x_iconst (pc := 42) dX12_add_42 ?_
  refine x_iadd (pc := 43) dX12_add_43 ?_
  refine x_putIF (pc := 44) dX12_add_44 fp_X12_227 k_127 (hL 127 (by decide) (by decide)) hF (fun hF => ?_)
  refine x_rV (pc := 47) dX12_add_47 rfl ?_
  exact ⟨h.add0, (FM.rf.upA (by decide)).upF (by decide), hF⟩
abbrev pLp (L : List Nat) (G0 : Nat → Nat → Int) (s : zSt) (u : Nat) (p : Int) : x_Q := qV L fun G' => mAB (zsk (zpt u p s.1, zpt u p s.2)).1 (zsk (zpt u p s.1, zpt u p s.2)).2 G' ∧ FM z_msS z_msF G0 G' ∧ x_Fin xFL G'
theorem l_mo_lyp {u : Nat} {p : Int} {G0 : Nat → Nat → Int} (hL : x_SL L) (h : mGn ns G0) (hk : ns[k]? = some s) (hk15 : k < 1500) (hv : zvS s) (hu : 4 ≤ u ∧ u < 8) (hp : p = -1 ∨ ∃ P : Nat, p = P ∧ P < 8 ∧ P ≠ 3) (hn : G0 127 39 = ((u : Nat) : Int)) (ha : G0 127 40 = p) :
    ∀ (r i : Nat) (G : Nat → Nat → Int) (o3 o4 : Option (Nat × Int)), i + r = s.1.length + s.2.length → mAB (zpt u p (s.1.take i)) (zpt u p (s.2.take (i - s.1.length))) G → FM z_msS z_msF G0 G → x_Fin xFL G →
    X mX12_layPut 1 0 0 (pLp L G0 s u p) 12 [some (vR 127), some (vI k), some (vI i), o3, o4] [] L G 0 0 := by
  have hl24 := hv.2.2.1
  have ll : (s.1 ++ s.2).length = s.1.length + s.2.length := List.length_append
  obtain ⟨c1, c2⟩ := zvS_lens hv hu.1
  intro r
  induction r with
  | zero =>
    intro i G o3 o4 hi hab hQ hF
    obtain ⟨hmf, hma, hmi⟩ := (h.FM hQ (by decide) (by decide) (by decide)) k s hk
    rw [ztk_z _ (by omega), ztk_z _ (by omega)] at hab
    refine x_iloadn (pc := 12) dX12_layPut_12 rfl ?_
    refine x_aloadn (pc := 13) dX12_layPut_13 rfl ?_
    refine x_getR (150) (pc := 14) dX12_layPut_14 fl_X12_77 k_127 (hL 127 (by decide) (by decide)) (f_127_28 hF) ?_
    refine x_iloadn (pc := 17) dX12_layPut_17 rfl ?_
    refine x_iald (k) (pc := 18) dX12_layPut_18 k_150 (hL 150 (by decide) (by decide)) (⟨by omega, by omega, by decide⟩) ?_
    rw [hma]
    refine x_cge (tgt := 124) (pc := 19) dX12_layPut_19 (by decide) (by omega) (fun c_19 => ?_) (fun c_19 => ?_)
    rotate_left
    · skip
      exact absurd c_19 (by omega)
    refine x_aloadn (pc := 124) dX12_layPut_124 rfl ?_
    refine x_cVV (pc := 125) dX12_layPut_125 lk_X12_247 (c_mo_strike hL hF hab (zb8_pt hv.b8.1 hp) (zb8_pt hv.b8.2 hp) ⟨Nat.le_trans (zpt_len32 c1) (by decide), Nat.le_trans (zpt_len32 c2) (by decide)⟩) k_127 ⟨by decide, rfl⟩ (hL 127 (by decide) (by decide)) (⟨by decide, by decide⟩) (Nat.le_of_ble_eq_true rfl) rfl ?_
    rintro G2 ⟨k1, k2, hF⟩
    refine x_rV (pc := 128) dX12_layPut_128 rfl ?_
    exact ⟨k1, hQ.tr k2, hF⟩
  | succ r ih =>
    intro i G o3 o4 hi hab hQ hF
    obtain ⟨hmf, hma, hmi⟩ := (h.FM hQ (by decide) (by decide) (by decide)) k s hk
    have hx := hmi i (by omega)
    have hpn : G 127 39 = ((u : Nat) : Int) := by rw [hQ _ _ (by decide) (fun _ => by decide)]; exact hn
    have hpa : G 127 40 = p := by rw [hQ _ _ (by decide) (fun _ => by decide)]; exact ha
    have hij : 24 * ((k : Nat) : Int) + ((i : Nat) : Int) = ((24 * k + i : Nat) : Int) := by omega
    have hx8 : (s.1 ++ s.2).getD i 0 < 8 := by rw [zgd_el (show i < (s.1 ++ s.2).length by omega)]; exact hv.all.1 _ (List.getElem_mem (show i < (s.1 ++ s.2).length by omega))
    have z1 := zpt_cap (p := p) c1 (Nat.min_le_left s.1.length i)
    have z2 := zpt_cap (p := p) c2 (Nat.min_le_left s.2.length (i - s.1.length))
    have w1 : (zpt u p (s.1.take i)).length ≤ 30 := by
      rcases Nat.le_total s.1.length i with w | w
      · rw [Nat.min_eq_left w, List.take_length] at z1; rw [ztk_z _ w]; exact z1
      · rw [Nat.min_eq_right w] at z1; exact z1
    have w2 : (zpt u p (s.2.take (i - s.1.length))).length ≤ 30 := zpt_cap (p := p) c2 (by omega)
    have q1 : i < s.1.length → zpt u p (s.1.take (i + 1)) = zpt u p (s.1.take i) ++ (if (((s.1 ++ s.2).getD i 0 : Nat) : Int) = u then (if p = -1 then [] else [p.toNat, (s.1 ++ s.2).getD i 0]) else [(s.1 ++ s.2).getD i 0]) ∧ s.2.take (i + 1 - s.1.length) = s.2.take (i - s.1.length) := fun w => ⟨by rw [zgd_l w, zpt_tk w], by rw [show i + 1 - s.1.length = 0 by omega, show i - s.1.length = 0 by omega]⟩
    have q0 : s.1.length ≤ i → s.1.take (i + 1) = s.1.take i ∧ zpt u p (s.2.take (i + 1 - s.1.length)) = zpt u p (s.2.take (i - s.1.length)) ++ (if (((s.1 ++ s.2).getD i 0 : Nat) : Int) = u then (if p = -1 then [] else [p.toNat, (s.1 ++ s.2).getD i 0]) else [(s.1 ++ s.2).getD i 0]) := fun w => ⟨by rw [ztk_z _ (by omega), ztk_z _ (by omega)], by rw [zgd_r w, show i + 1 - s.1.length = i - s.1.length + 1 by omega, zpt_tk (by omega)]⟩
    have ihx := fun G o3 o4 => ih (i + 1) G o3 o4 (by omega)
    obtain ⟨x, hxe⟩ : ∃ x, x = (s.1 ++ s.2).getD i 0 := ⟨_, rfl⟩
    rw [← hxe] at hx hx8 q1 q0
    rcases hp with rfl | ⟨P, rfl, hP, hP3⟩
    · by_cases cf : i < s.1.length
      · skip
        refine x_iloadn (pc := 12) dX12_layPut_12 rfl ?_
        refine x_aloadn (pc := 13) dX12_layPut_13 rfl ?_
        refine x_getR (150) (pc := 14) dX12_layPut_14 fl_X12_77 k_127 (hL 127 (by decide) (by decide)) (f_127_28 hF) ?_
        refine x_iloadn (pc := 17) dX12_layPut_17 rfl ?_
        refine x_iald (k) (pc := 18) dX12_layPut_18 k_150 (hL 150 (by decide) (by decide)) (⟨by omega, by omega, by decide⟩) ?_
        rw [hma]
        refine x_cge (tgt := 124) (pc := 19) dX12_layPut_19 (by decide) (by omega) (fun c_19 => ?_) (fun c_19 => ?_)
        · skip
          exact absurd c_19 (by omega)
        refine x_aloadn (pc := 22) dX12_layPut_22 rfl ?_
        refine x_getR (148) (pc := 23) dX12_layPut_23 fl_X12_71 k_127 (hL 127 (by decide) (by decide)) (f_127_26 hF) ?_
        refine x_bipush (pc := 26) dX12_layPut_26 (by decide) ?_
        refine x_iloadn (pc := 28) dX12_layPut_28 rfl ?_
        refine x_imul (pc := 29) dX12_layPut_29 ?_
        refine x_iloadn (pc := 30) dX12_layPut_30 rfl ?_
        refine x_iadd (pc := 31) dX12_layPut_31 ?_
        rw [hij]
        refine x_iald (24 * k + i) (pc := 32) dX12_layPut_32 k_148 (hL 148 (by decide) (by decide)) (⟨by omega, by omega, by decide⟩) ?_
        rw [hx]
        refine x_istoren (pc := 33) dX12_layPut_33 rfl (by decide) rfl ?_
        refine x_iloadn (pc := 34) dX12_layPut_34 rfl ?_
        refine x_aloadn (pc := 35) dX12_layPut_35 rfl ?_
        refine x_getI (pc := 36) dX12_layPut_36 fl_X12_240 k_127 (hL 127 (by decide) (by decide)) ?_
        rw [hpn]
        refine x_cne (tgt := 46) (pc := 39) dX12_layPut_39 (by decide) (by omega) (fun c_39 => ?_) (fun c_39 => ?_)
        · skip
          refine x_iconst (pc := 46) dX12_layPut_46 ?_
          refine x_istore (pc := 47) dX12_layPut_47 (by decide) rfl ?_
          refine x_iload (pc := 49) dX12_layPut_49 rfl ?_
          refine x_ieq (tgt := 85) (pc := 51) dX12_layPut_51 (by decide) (by omega) (fun c_51 => ?_) (fun c_51 => ?_)
          · skip
            refine x_iload (pc := 85) dX12_layPut_85 rfl ?_
            refine x_ieq (tgt := 98) (pc := 87) dX12_layPut_87 (by decide) (by omega) (fun c_87 => ?_) (fun c_87 => ?_)
            · skip
              refine x_aloadn (pc := 98) dX12_layPut_98 rfl ?_
              refine x_iloadn (pc := 99) dX12_layPut_99 rfl ?_
              refine x_iloadn (pc := 100) dX12_layPut_100 rfl ?_
              refine x_aloadn (pc := 101) dX12_layPut_101 rfl ?_
              refine x_getR (149) (pc := 102) dX12_layPut_102 fl_X12_74 k_127 (hL 127 (by decide) (by decide)) (f_127_27 hF) ?_
              refine x_iloadn (pc := 105) dX12_layPut_105 rfl ?_
              refine x_iald (k) (pc := 106) dX12_layPut_106 k_149 (hL 149 (by decide) (by decide)) (⟨by omega, by omega, by decide⟩) ?_
              rw [hmf]
              refine x_cge (tgt := 114) (pc := 107) dX12_layPut_107 (by decide) (by omega) (fun c_107 => ?_) (fun c_107 => ?_)
              · skip
                exact absurd c_107 (by omega)
              refine x_iconst (pc := 110) dX12_layPut_110 ?_
              refine x_goto (tgt := 115) (pc := 111) dX12_layPut_111 (by decide) ?_
              refine x_cVV (pc := 115) dX12_layPut_115 lk_X12_243 (c_mo_add1 hL hF hab (by omega)) k_127 ⟨by decide, rfl⟩ (hL 127 (by decide) (by decide)) (⟨by decide, by decide⟩) (Nat.le_of_ble_eq_true rfl) rfl ?_
              rintro G2 ⟨k1, k2, hF⟩
              refine x_iinc (pc := 118) dX12_layPut_118 rfl (by decide) rfl ?_
              refine x_goto (tgt := 12) (pc := 121) dX12_layPut_121 (by decide) ?_
              first
              | (rw [(q1 (by omega)).1, (q1 (by omega)).2, if_neg (by omega)] at ihx; exact ihx _ _ _ k1 (hQ.tr k2) hF)
              | (rw [(q1 (by omega)).1, (q1 (by omega)).2, if_pos (by omega), if_pos rfl, List.append_nil] at ihx; exact ihx _ _ _ hab hQ hF)
            · skip
              refine x_aloadn (pc := 90) dX12_layPut_90 rfl ?_
              refine x_getI (pc := 91) dX12_layPut_91 fl_X12_237 k_127 (hL 127 (by decide) (by decide)) ?_
              rw [hpa]
              refine x_iconst (pc := 94) dX12_layPut_94 ?_
              refine x_ceq (tgt := 118) (pc := 95) dX12_layPut_95 (by decide) (by omega) (fun c_95 => ?_) (fun c_95 => ?_)
              rotate_left
              · skip
                exact absurd rfl c_95
              refine x_iinc (pc := 118) dX12_layPut_118 rfl (by decide) rfl ?_
              refine x_goto (tgt := 12) (pc := 121) dX12_layPut_121 (by decide) ?_
              first
              | (rw [(q1 (by omega)).1, (q1 (by omega)).2, if_neg (by omega)] at ihx; exact ihx _ _ _ k1 (hQ.tr k2) hF)
              | (rw [(q1 (by omega)).1, (q1 (by omega)).2, if_pos (by omega), if_pos rfl, List.append_nil] at ihx; exact ihx _ _ _ hab hQ hF)
          · skip
            refine x_aloadn (pc := 54) dX12_layPut_54 rfl ?_
            refine x_getI (pc := 55) dX12_layPut_55 fl_X12_237 k_127 (hL 127 (by decide) (by decide)) ?_
            rw [hpa]
            refine x_iconst (pc := 58) dX12_layPut_58 ?_
            refine x_ceq (tgt := 85) (pc := 59) dX12_layPut_59 (by decide) (by omega) (fun c_59 => ?_) (fun c_59 => ?_)
            rotate_left
            · skip
              exact absurd rfl c_59
            refine x_iload (pc := 85) dX12_layPut_85 rfl ?_
            refine x_ieq (tgt := 98) (pc := 87) dX12_layPut_87 (by decide) (by omega) (fun c_87 => ?_) (fun c_87 => ?_)
            · skip
              refine x_aloadn (pc := 98) dX12_layPut_98 rfl ?_
              refine x_iloadn (pc := 99) dX12_layPut_99 rfl ?_
              refine x_iloadn (pc := 100) dX12_layPut_100 rfl ?_
              refine x_aloadn (pc := 101) dX12_layPut_101 rfl ?_
              refine x_getR (149) (pc := 102) dX12_layPut_102 fl_X12_74 k_127 (hL 127 (by decide) (by decide)) (f_127_27 hF) ?_
              refine x_iloadn (pc := 105) dX12_layPut_105 rfl ?_
              refine x_iald (k) (pc := 106) dX12_layPut_106 k_149 (hL 149 (by decide) (by decide)) (⟨by omega, by omega, by decide⟩) ?_
              rw [hmf]
              refine x_cge (tgt := 114) (pc := 107) dX12_layPut_107 (by decide) (by omega) (fun c_107 => ?_) (fun c_107 => ?_)
              · skip
                exact absurd c_107 (by omega)
              refine x_iconst (pc := 110) dX12_layPut_110 ?_
              refine x_goto (tgt := 115) (pc := 111) dX12_layPut_111 (by decide) ?_
              refine x_cVV (pc := 115) dX12_layPut_115 lk_X12_243 (c_mo_add1 hL hF hab (by omega)) k_127 ⟨by decide, rfl⟩ (hL 127 (by decide) (by decide)) (⟨by decide, by decide⟩) (Nat.le_of_ble_eq_true rfl) rfl ?_
              rintro G2 ⟨k1, k2, hF⟩
              refine x_iinc (pc := 118) dX12_layPut_118 rfl (by decide) rfl ?_
              refine x_goto (tgt := 12) (pc := 121) dX12_layPut_121 (by decide) ?_
              first
              | (rw [(q1 (by omega)).1, (q1 (by omega)).2, if_neg (by omega)] at ihx; exact ihx _ _ _ k1 (hQ.tr k2) hF)
              | (rw [(q1 (by omega)).1, (q1 (by omega)).2, if_pos (by omega), if_pos rfl, List.append_nil] at ihx; exact ihx _ _ _ hab hQ hF)
            · skip
              refine x_aloadn (pc := 90) dX12_layPut_90 rfl ?_
              refine x_getI (pc := 91) dX12_layPut_91 fl_X12_237 k_127 (hL 127 (by decide) (by decide)) ?_
              rw [hpa]
              refine x_iconst (pc := 94) dX12_layPut_94 ?_
              refine x_ceq (tgt := 118) (pc := 95) dX12_layPut_95 (by decide) (by omega) (fun c_95 => ?_) (fun c_95 => ?_)
              rotate_left
              · skip
                exact absurd rfl c_95
              refine x_iinc (pc := 118) dX12_layPut_118 rfl (by decide) rfl ?_
              refine x_goto (tgt := 12) (pc := 121) dX12_layPut_121 (by decide) ?_
              first
              | (rw [(q1 (by omega)).1, (q1 (by omega)).2, if_neg (by omega)] at ihx; exact ihx _ _ _ k1 (hQ.tr k2) hF)
              | (rw [(q1 (by omega)).1, (q1 (by omega)).2, if_pos (by omega), if_pos rfl, List.append_nil] at ihx; exact ihx _ _ _ hab hQ hF)
        · skip
          refine x_iconst (pc := 42) dX12_layPut_42 ?_
          refine x_goto (tgt := 47) (pc := 43) dX12_layPut_43 (by decide) ?_
          refine x_istore (pc := 47) dX12_layPut_47 (by decide) rfl ?_
          refine x_iload (pc := 49) dX12_layPut_49 rfl ?_
          refine x_ieq (tgt := 85) (pc := 51) dX12_layPut_51 (by decide) (by omega) (fun c_51 => ?_) (fun c_51 => ?_)
          · skip
            refine x_iload (pc := 85) dX12_layPut_85 rfl ?_
            refine x_ieq (tgt := 98) (pc := 87) dX12_layPut_87 (by decide) (by omega) (fun c_87 => ?_) (fun c_87 => ?_)
            · skip
              refine x_aloadn (pc := 98) dX12_layPut_98 rfl ?_
              refine x_iloadn (pc := 99) dX12_layPut_99 rfl ?_
              refine x_iloadn (pc := 100) dX12_layPut_100 rfl ?_
              refine x_aloadn (pc := 101) dX12_layPut_101 rfl ?_
              refine x_getR (149) (pc := 102) dX12_layPut_102 fl_X12_74 k_127 (hL 127 (by decide) (by decide)) (f_127_27 hF) ?_
              refine x_iloadn (pc := 105) dX12_layPut_105 rfl ?_
              refine x_iald (k) (pc := 106) dX12_layPut_106 k_149 (hL 149 (by decide) (by decide)) (⟨by omega, by omega, by decide⟩) ?_
              rw [hmf]
              refine x_cge (tgt := 114) (pc := 107) dX12_layPut_107 (by decide) (by omega) (fun c_107 => ?_) (fun c_107 => ?_)
              · skip
                exact absurd c_107 (by omega)
              refine x_iconst (pc := 110) dX12_layPut_110 ?_
              refine x_goto (tgt := 115) (pc := 111) dX12_layPut_111 (by decide) ?_
              refine x_cVV (pc := 115) dX12_layPut_115 lk_X12_243 (c_mo_add1 hL hF hab (by omega)) k_127 ⟨by decide, rfl⟩ (hL 127 (by decide) (by decide)) (⟨by decide, by decide⟩) (Nat.le_of_ble_eq_true rfl) rfl ?_
              rintro G2 ⟨k1, k2, hF⟩
              refine x_iinc (pc := 118) dX12_layPut_118 rfl (by decide) rfl ?_
              refine x_goto (tgt := 12) (pc := 121) dX12_layPut_121 (by decide) ?_
              first
              | (rw [(q1 (by omega)).1, (q1 (by omega)).2, if_neg (by omega)] at ihx; exact ihx _ _ _ k1 (hQ.tr k2) hF)
              | (rw [(q1 (by omega)).1, (q1 (by omega)).2, if_pos (by omega), if_pos rfl, List.append_nil] at ihx; exact ihx _ _ _ hab hQ hF)
            · skip
              refine x_aloadn (pc := 90) dX12_layPut_90 rfl ?_
              refine x_getI (pc := 91) dX12_layPut_91 fl_X12_237 k_127 (hL 127 (by decide) (by decide)) ?_
              rw [hpa]
              refine x_iconst (pc := 94) dX12_layPut_94 ?_
              refine x_ceq (tgt := 118) (pc := 95) dX12_layPut_95 (by decide) (by omega) (fun c_95 => ?_) (fun c_95 => ?_)
              rotate_left
              · skip
                exact absurd rfl c_95
              refine x_iinc (pc := 118) dX12_layPut_118 rfl (by decide) rfl ?_
              refine x_goto (tgt := 12) (pc := 121) dX12_layPut_121 (by decide) ?_
              first
              | (rw [(q1 (by omega)).1, (q1 (by omega)).2, if_neg (by omega)] at ihx; exact ihx _ _ _ k1 (hQ.tr k2) hF)
              | (rw [(q1 (by omega)).1, (q1 (by omega)).2, if_pos (by omega), if_pos rfl, List.append_nil] at ihx; exact ihx _ _ _ hab hQ hF)
          · skip
            refine x_aloadn (pc := 54) dX12_layPut_54 rfl ?_
            refine x_getI (pc := 55) dX12_layPut_55 fl_X12_237 k_127 (hL 127 (by decide) (by decide)) ?_
            rw [hpa]
            refine x_iconst (pc := 58) dX12_layPut_58 ?_
            refine x_ceq (tgt := 85) (pc := 59) dX12_layPut_59 (by decide) (by omega) (fun c_59 => ?_) (fun c_59 => ?_)
            rotate_left
            · skip
              exact absurd rfl c_59
            refine x_iload (pc := 85) dX12_layPut_85 rfl ?_
            refine x_ieq (tgt := 98) (pc := 87) dX12_layPut_87 (by decide) (by omega) (fun c_87 => ?_) (fun c_87 => ?_)
            · skip
              refine x_aloadn (pc := 98) dX12_layPut_98 rfl ?_
              refine x_iloadn (pc := 99) dX12_layPut_99 rfl ?_
              refine x_iloadn (pc := 100) dX12_layPut_100 rfl ?_
              refine x_aloadn (pc := 101) dX12_layPut_101 rfl ?_
              refine x_getR (149) (pc := 102) dX12_layPut_102 fl_X12_74 k_127 (hL 127 (by decide) (by decide)) (f_127_27 hF) ?_
              refine x_iloadn (pc := 105) dX12_layPut_105 rfl ?_
              refine x_iald (k) (pc := 106) dX12_layPut_106 k_149 (hL 149 (by decide) (by decide)) (⟨by omega, by omega, by decide⟩) ?_
              rw [hmf]
              refine x_cge (tgt := 114) (pc := 107) dX12_layPut_107 (by decide) (by omega) (fun c_107 => ?_) (fun c_107 => ?_)
              · skip
                exact absurd c_107 (by omega)
              refine x_iconst (pc := 110) dX12_layPut_110 ?_
              refine x_goto (tgt := 115) (pc := 111) dX12_layPut_111 (by decide) ?_
              refine x_cVV (pc := 115) dX12_layPut_115 lk_X12_243 (c_mo_add1 hL hF hab (by omega)) k_127 ⟨by decide, rfl⟩ (hL 127 (by decide) (by decide)) (⟨by decide, by decide⟩) (Nat.le_of_ble_eq_true rfl) rfl ?_
              rintro G2 ⟨k1, k2, hF⟩
              refine x_iinc (pc := 118) dX12_layPut_118 rfl (by decide) rfl ?_
              refine x_goto (tgt := 12) (pc := 121) dX12_layPut_121 (by decide) ?_
              first
              | (rw [(q1 (by omega)).1, (q1 (by omega)).2, if_neg (by omega)] at ihx; exact ihx _ _ _ k1 (hQ.tr k2) hF)
              | (rw [(q1 (by omega)).1, (q1 (by omega)).2, if_pos (by omega), if_pos rfl, List.append_nil] at ihx; exact ihx _ _ _ hab hQ hF)
            · skip
              refine x_aloadn (pc := 90) dX12_layPut_90 rfl ?_
              refine x_getI (pc := 91) dX12_layPut_91 fl_X12_237 k_127 (hL 127 (by decide) (by decide)) ?_
              rw [hpa]
              refine x_iconst (pc := 94) dX12_layPut_94 ?_
              refine x_ceq (tgt := 118) (pc := 95) dX12_layPut_95 (by decide) (by omega) (fun c_95 => ?_) (fun c_95 => ?_)
              rotate_left
              · skip
                exact absurd rfl c_95
              refine x_iinc (pc := 118) dX12_layPut_118 rfl (by decide) rfl ?_
              refine x_goto (tgt := 12) (pc := 121) dX12_layPut_121 (by decide) ?_
              first
              | (rw [(q1 (by omega)).1, (q1 (by omega)).2, if_neg (by omega)] at ihx; exact ihx _ _ _ k1 (hQ.tr k2) hF)
              | (rw [(q1 (by omega)).1, (q1 (by omega)).2, if_pos (by omega), if_pos rfl, List.append_nil] at ihx; exact ihx _ _ _ hab hQ hF)
      · skip
        refine x_iloadn (pc := 12) dX12_layPut_12 rfl ?_
        refine x_aloadn (pc := 13) dX12_layPut_13 rfl ?_
        refine x_getR (150) (pc := 14) dX12_layPut_14 fl_X12_77 k_127 (hL 127 (by decide) (by decide)) (f_127_28 hF) ?_
        refine x_iloadn (pc := 17) dX12_layPut_17 rfl ?_
        refine x_iald (k) (pc := 18) dX12_layPut_18 k_150 (hL 150 (by decide) (by decide)) (⟨by omega, by omega, by decide⟩) ?_
        rw [hma]
        refine x_cge (tgt := 124) (pc := 19) dX12_layPut_19 (by decide) (by omega) (fun c_19 => ?_) (fun c_19 => ?_)
        · skip
          exact absurd c_19 (by omega)
        refine x_aloadn (pc := 22) dX12_layPut_22 rfl ?_
        refine x_getR (148) (pc := 23) dX12_layPut_23 fl_X12_71 k_127 (hL 127 (by decide) (by decide)) (f_127_26 hF) ?_
        refine x_bipush (pc := 26) dX12_layPut_26 (by decide) ?_
        refine x_iloadn (pc := 28) dX12_layPut_28 rfl ?_
        refine x_imul (pc := 29) dX12_layPut_29 ?_
        refine x_iloadn (pc := 30) dX12_layPut_30 rfl ?_
        refine x_iadd (pc := 31) dX12_layPut_31 ?_
        rw [hij]
        refine x_iald (24 * k + i) (pc := 32) dX12_layPut_32 k_148 (hL 148 (by decide) (by decide)) (⟨by omega, by omega, by decide⟩) ?_
        rw [hx]
        refine x_istoren (pc := 33) dX12_layPut_33 rfl (by decide) rfl ?_
        refine x_iloadn (pc := 34) dX12_layPut_34 rfl ?_
        refine x_aloadn (pc := 35) dX12_layPut_35 rfl ?_
        refine x_getI (pc := 36) dX12_layPut_36 fl_X12_240 k_127 (hL 127 (by decide) (by decide)) ?_
        rw [hpn]
        refine x_cne (tgt := 46) (pc := 39) dX12_layPut_39 (by decide) (by omega) (fun c_39 => ?_) (fun c_39 => ?_)
        · skip
          refine x_iconst (pc := 46) dX12_layPut_46 ?_
          refine x_istore (pc := 47) dX12_layPut_47 (by decide) rfl ?_
          refine x_iload (pc := 49) dX12_layPut_49 rfl ?_
          refine x_ieq (tgt := 85) (pc := 51) dX12_layPut_51 (by decide) (by omega) (fun c_51 => ?_) (fun c_51 => ?_)
          · skip
            refine x_iload (pc := 85) dX12_layPut_85 rfl ?_
            refine x_ieq (tgt := 98) (pc := 87) dX12_layPut_87 (by decide) (by omega) (fun c_87 => ?_) (fun c_87 => ?_)
            · skip
              refine x_aloadn (pc := 98) dX12_layPut_98 rfl ?_
              refine x_iloadn (pc := 99) dX12_layPut_99 rfl ?_
              refine x_iloadn (pc := 100) dX12_layPut_100 rfl ?_
              refine x_aloadn (pc := 101) dX12_layPut_101 rfl ?_
              refine x_getR (149) (pc := 102) dX12_layPut_102 fl_X12_74 k_127 (hL 127 (by decide) (by decide)) (f_127_27 hF) ?_
              refine x_iloadn (pc := 105) dX12_layPut_105 rfl ?_
              refine x_iald (k) (pc := 106) dX12_layPut_106 k_149 (hL 149 (by decide) (by decide)) (⟨by omega, by omega, by decide⟩) ?_
              rw [hmf]
              refine x_cge (tgt := 114) (pc := 107) dX12_layPut_107 (by decide) (by omega) (fun c_107 => ?_) (fun c_107 => ?_)
              rotate_left
              · skip
                exact absurd c_107 (by omega)
              refine x_iconst (pc := 114) dX12_layPut_114 ?_
              refine x_cVV (pc := 115) dX12_layPut_115 lk_X12_243 (c_mo_add0 hL hF hab (by omega)) k_127 ⟨by decide, rfl⟩ (hL 127 (by decide) (by decide)) (⟨by decide, by decide⟩) (Nat.le_of_ble_eq_true rfl) rfl ?_
              rintro G2 ⟨k1, k2, hF⟩
              refine x_iinc (pc := 118) dX12_layPut_118 rfl (by decide) rfl ?_
              refine x_goto (tgt := 12) (pc := 121) dX12_layPut_121 (by decide) ?_
              first
              | (rw [(q0 (by omega)).1, (q0 (by omega)).2, if_neg (by omega)] at ihx; exact ihx _ _ _ k1 (hQ.tr k2) hF)
              | (rw [(q0 (by omega)).1, (q0 (by omega)).2, if_pos (by omega), if_pos rfl, List.append_nil] at ihx; exact ihx _ _ _ hab hQ hF)
            · skip
              refine x_aloadn (pc := 90) dX12_layPut_90 rfl ?_
              refine x_getI (pc := 91) dX12_layPut_91 fl_X12_237 k_127 (hL 127 (by decide) (by decide)) ?_
              rw [hpa]
              refine x_iconst (pc := 94) dX12_layPut_94 ?_
              refine x_ceq (tgt := 118) (pc := 95) dX12_layPut_95 (by decide) (by omega) (fun c_95 => ?_) (fun c_95 => ?_)
              rotate_left
              · skip
                exact absurd rfl c_95
              refine x_iinc (pc := 118) dX12_layPut_118 rfl (by decide) rfl ?_
              refine x_goto (tgt := 12) (pc := 121) dX12_layPut_121 (by decide) ?_
              first
              | (rw [(q0 (by omega)).1, (q0 (by omega)).2, if_neg (by omega)] at ihx; exact ihx _ _ _ k1 (hQ.tr k2) hF)
              | (rw [(q0 (by omega)).1, (q0 (by omega)).2, if_pos (by omega), if_pos rfl, List.append_nil] at ihx; exact ihx _ _ _ hab hQ hF)
          · skip
            refine x_aloadn (pc := 54) dX12_layPut_54 rfl ?_
            refine x_getI (pc := 55) dX12_layPut_55 fl_X12_237 k_127 (hL 127 (by decide) (by decide)) ?_
            rw [hpa]
            refine x_iconst (pc := 58) dX12_layPut_58 ?_
            refine x_ceq (tgt := 85) (pc := 59) dX12_layPut_59 (by decide) (by omega) (fun c_59 => ?_) (fun c_59 => ?_)
            rotate_left
            · skip
              exact absurd rfl c_59
            refine x_iload (pc := 85) dX12_layPut_85 rfl ?_
            refine x_ieq (tgt := 98) (pc := 87) dX12_layPut_87 (by decide) (by omega) (fun c_87 => ?_) (fun c_87 => ?_)
            · skip
              refine x_aloadn (pc := 98) dX12_layPut_98 rfl ?_
              refine x_iloadn (pc := 99) dX12_layPut_99 rfl ?_
              refine x_iloadn (pc := 100) dX12_layPut_100 rfl ?_
              refine x_aloadn (pc := 101) dX12_layPut_101 rfl ?_
              refine x_getR (149) (pc := 102) dX12_layPut_102 fl_X12_74 k_127 (hL 127 (by decide) (by decide)) (f_127_27 hF) ?_
              refine x_iloadn (pc := 105) dX12_layPut_105 rfl ?_
              refine x_iald (k) (pc := 106) dX12_layPut_106 k_149 (hL 149 (by decide) (by decide)) (⟨by omega, by omega, by decide⟩) ?_
              rw [hmf]
              refine x_cge (tgt := 114) (pc := 107) dX12_layPut_107 (by decide) (by omega) (fun c_107 => ?_) (fun c_107 => ?_)
              rotate_left
              · skip
                exact absurd c_107 (by omega)
              refine x_iconst (pc := 114) dX12_layPut_114 ?_
              refine x_cVV (pc := 115) dX12_layPut_115 lk_X12_243 (c_mo_add0 hL hF hab (by omega)) k_127 ⟨by decide, rfl⟩ (hL 127 (by decide) (by decide)) (⟨by decide, by decide⟩) (Nat.le_of_ble_eq_true rfl) rfl ?_
              rintro G2 ⟨k1, k2, hF⟩
              refine x_iinc (pc := 118) dX12_layPut_118 rfl (by decide) rfl ?_
              refine x_goto (tgt := 12) (pc := 121) dX12_layPut_121 (by decide) ?_
              first
              | (rw [(q0 (by omega)).1, (q0 (by omega)).2, if_neg (by omega)] at ihx; exact ihx _ _ _ k1 (hQ.tr k2) hF)
              | (rw [(q0 (by omega)).1, (q0 (by omega)).2, if_pos (by omega), if_pos rfl, List.append_nil] at ihx; exact ihx _ _ _ hab hQ hF)
            · skip
              refine x_aloadn (pc := 90) dX12_layPut_90 rfl ?_
              refine x_getI (pc := 91) dX12_layPut_91 fl_X12_237 k_127 (hL 127 (by decide) (by decide)) ?_
              rw [hpa]
              refine x_iconst (pc := 94) dX12_layPut_94 ?_
              refine x_ceq (tgt := 118) (pc := 95) dX12_layPut_95 (by decide) (by omega) (fun c_95 => ?_) (fun c_95 => ?_)
              rotate_left
              · skip
                exact absurd rfl c_95
              refine x_iinc (pc := 118) dX12_layPut_118 rfl (by decide) rfl ?_
              refine x_goto (tgt := 12) (pc := 121) dX12_layPut_121 (by decide) ?_
              first
              | (rw [(q0 (by omega)).1, (q0 (by omega)).2, if_neg (by omega)] at ihx; exact ihx _ _ _ k1 (hQ.tr k2) hF)
              | (rw [(q0 (by omega)).1, (q0 (by omega)).2, if_pos (by omega), if_pos rfl, List.append_nil] at ihx; exact ihx _ _ _ hab hQ hF)
        · skip
          refine x_iconst (pc := 42) dX12_layPut_42 ?_
          refine x_goto (tgt := 47) (pc := 43) dX12_layPut_43 (by decide) ?_
          refine x_istore (pc := 47) dX12_layPut_47 (by decide) rfl ?_
          refine x_iload (pc := 49) dX12_layPut_49 rfl ?_
          refine x_ieq (tgt := 85) (pc := 51) dX12_layPut_51 (by decide) (by omega) (fun c_51 => ?_) (fun c_51 => ?_)
          · skip
            refine x_iload (pc := 85) dX12_layPut_85 rfl ?_
            refine x_ieq (tgt := 98) (pc := 87) dX12_layPut_87 (by decide) (by omega) (fun c_87 => ?_) (fun c_87 => ?_)
            · skip
              refine x_aloadn (pc := 98) dX12_layPut_98 rfl ?_
              refine x_iloadn (pc := 99) dX12_layPut_99 rfl ?_
              refine x_iloadn (pc := 100) dX12_layPut_100 rfl ?_
              refine x_aloadn (pc := 101) dX12_layPut_101 rfl ?_
              refine x_getR (149) (pc := 102) dX12_layPut_102 fl_X12_74 k_127 (hL 127 (by decide) (by decide)) (f_127_27 hF) ?_
              refine x_iloadn (pc := 105) dX12_layPut_105 rfl ?_
              refine x_iald (k) (pc := 106) dX12_layPut_106 k_149 (hL 149 (by decide) (by decide)) (⟨by omega, by omega, by decide⟩) ?_
              rw [hmf]
              refine x_cge (tgt := 114) (pc := 107) dX12_layPut_107 (by decide) (by omega) (fun c_107 => ?_) (fun c_107 => ?_)
              rotate_left
              · skip
                exact absurd c_107 (by omega)
              refine x_iconst (pc := 114) dX12_layPut_114 ?_
              refine x_cVV (pc := 115) dX12_layPut_115 lk_X12_243 (c_mo_add0 hL hF hab (by omega)) k_127 ⟨by decide, rfl⟩ (hL 127 (by decide) (by decide)) (⟨by decide, by decide⟩) (Nat.le_of_ble_eq_true rfl) rfl ?_
              rintro G2 ⟨k1, k2, hF⟩
              refine x_iinc (pc := 118) dX12_layPut_118 rfl (by decide) rfl ?_
              refine x_goto (tgt := 12) (pc := 121) dX12_layPut_121 (by decide) ?_
              first
              | (rw [(q0 (by omega)).1, (q0 (by omega)).2, if_neg (by omega)] at ihx; exact ihx _ _ _ k1 (hQ.tr k2) hF)
              | (rw [(q0 (by omega)).1, (q0 (by omega)).2, if_pos (by omega), if_pos rfl, List.append_nil] at ihx; exact ihx _ _ _ hab hQ hF)
            · skip
              refine x_aloadn (pc := 90) dX12_layPut_90 rfl ?_
              refine x_getI (pc := 91) dX12_layPut_91 fl_X12_237 k_127 (hL 127 (by decide) (by decide)) ?_
              rw [hpa]
              refine x_iconst (pc := 94) dX12_layPut_94 ?_
              refine x_ceq (tgt := 118) (pc := 95) dX12_layPut_95 (by decide) (by omega) (fun c_95 => ?_) (fun c_95 => ?_)
              rotate_left
              · skip
                exact absurd rfl c_95
              refine x_iinc (pc := 118) dX12_layPut_118 rfl (by decide) rfl ?_
              refine x_goto (tgt := 12) (pc := 121) dX12_layPut_121 (by decide) ?_
              first
              | (rw [(q0 (by omega)).1, (q0 (by omega)).2, if_neg (by omega)] at ihx; exact ihx _ _ _ k1 (hQ.tr k2) hF)
              | (rw [(q0 (by omega)).1, (q0 (by omega)).2, if_pos (by omega), if_pos rfl, List.append_nil] at ihx; exact ihx _ _ _ hab hQ hF)
          · skip
            refine x_aloadn (pc := 54) dX12_layPut_54 rfl ?_
            refine x_getI (pc := 55) dX12_layPut_55 fl_X12_237 k_127 (hL 127 (by decide) (by decide)) ?_
            rw [hpa]
            refine x_iconst (pc := 58) dX12_layPut_58 ?_
            refine x_ceq (tgt := 85) (pc := 59) dX12_layPut_59 (by decide) (by omega) (fun c_59 => ?_) (fun c_59 => ?_)
            rotate_left
            · skip
              exact absurd rfl c_59
            refine x_iload (pc := 85) dX12_layPut_85 rfl ?_
            refine x_ieq (tgt := 98) (pc := 87) dX12_layPut_87 (by decide) (by omega) (fun c_87 => ?_) (fun c_87 => ?_)
            · skip
              refine x_aloadn (pc := 98) dX12_layPut_98 rfl ?_
              refine x_iloadn (pc := 99) dX12_layPut_99 rfl ?_
              refine x_iloadn (pc := 100) dX12_layPut_100 rfl ?_
              refine x_aloadn (pc := 101) dX12_layPut_101 rfl ?_
              refine x_getR (149) (pc := 102) dX12_layPut_102 fl_X12_74 k_127 (hL 127 (by decide) (by decide)) (f_127_27 hF) ?_
              refine x_iloadn (pc := 105) dX12_layPut_105 rfl ?_
              refine x_iald (k) (pc := 106) dX12_layPut_106 k_149 (hL 149 (by decide) (by decide)) (⟨by omega, by omega, by decide⟩) ?_
              rw [hmf]
              refine x_cge (tgt := 114) (pc := 107) dX12_layPut_107 (by decide) (by omega) (fun c_107 => ?_) (fun c_107 => ?_)
              rotate_left
              · skip
                exact absurd c_107 (by omega)
              refine x_iconst (pc := 114) dX12_layPut_114 ?_
              refine x_cVV (pc := 115) dX12_layPut_115 lk_X12_243 (c_mo_add0 hL hF hab (by omega)) k_127 ⟨by decide, rfl⟩ (hL 127 (by decide) (by decide)) (⟨by decide, by decide⟩) (Nat.le_of_ble_eq_true rfl) rfl ?_
              rintro G2 ⟨k1, k2, hF⟩
              refine x_iinc (pc := 118) dX12_layPut_118 rfl (by decide) rfl ?_
              refine x_goto (tgt := 12) (pc := 121) dX12_layPut_121 (by decide) ?_
              first
              | (rw [(q0 (by omega)).1, (q0 (by omega)).2, if_neg (by omega)] at ihx; exact ihx _ _ _ k1 (hQ.tr k2) hF)
              | (rw [(q0 (by omega)).1, (q0 (by omega)).2, if_pos (by omega), if_pos rfl, List.append_nil] at ihx; exact ihx _ _ _ hab hQ hF)
            · skip
              refine x_aloadn (pc := 90) dX12_layPut_90 rfl ?_
              refine x_getI (pc := 91) dX12_layPut_91 fl_X12_237 k_127 (hL 127 (by decide) (by decide)) ?_
              rw [hpa]
              refine x_iconst (pc := 94) dX12_layPut_94 ?_
              refine x_ceq (tgt := 118) (pc := 95) dX12_layPut_95 (by decide) (by omega) (fun c_95 => ?_) (fun c_95 => ?_)
              rotate_left
              · skip
                exact absurd rfl c_95
              refine x_iinc (pc := 118) dX12_layPut_118 rfl (by decide) rfl ?_
              refine x_goto (tgt := 12) (pc := 121) dX12_layPut_121 (by decide) ?_
              first
              | (rw [(q0 (by omega)).1, (q0 (by omega)).2, if_neg (by omega)] at ihx; exact ihx _ _ _ k1 (hQ.tr k2) hF)
              | (rw [(q0 (by omega)).1, (q0 (by omega)).2, if_pos (by omega), if_pos rfl, List.append_nil] at ihx; exact ihx _ _ _ hab hQ hF)
    · have len1 : (zpt u P (s.1.take i) ++ [P]).length < 60 := by rw [List.length_append, List.length_singleton]; omega
      have len0 : (zpt u P (s.2.take (i - s.1.length)) ++ [P]).length < 60 := by rw [List.length_append, List.length_singleton]; omega
      by_cases cf : i < s.1.length
      · skip
        refine x_iloadn (pc := 12) dX12_layPut_12 rfl ?_
        refine x_aloadn (pc := 13) dX12_layPut_13 rfl ?_
        refine x_getR (150) (pc := 14) dX12_layPut_14 fl_X12_77 k_127 (hL 127 (by decide) (by decide)) (f_127_28 hF) ?_
        refine x_iloadn (pc := 17) dX12_layPut_17 rfl ?_
        refine x_iald (k) (pc := 18) dX12_layPut_18 k_150 (hL 150 (by decide) (by decide)) (⟨by omega, by omega, by decide⟩) ?_
        rw [hma]
        refine x_cge (tgt := 124) (pc := 19) dX12_layPut_19 (by decide) (by omega) (fun c_19 => ?_) (fun c_19 => ?_)
        · skip
          exact absurd c_19 (by omega)
        refine x_aloadn (pc := 22) dX12_layPut_22 rfl ?_
        refine x_getR (148) (pc := 23) dX12_layPut_23 fl_X12_71 k_127 (hL 127 (by decide) (by decide)) (f_127_26 hF) ?_
        refine x_bipush (pc := 26) dX12_layPut_26 (by decide) ?_
        refine x_iloadn (pc := 28) dX12_layPut_28 rfl ?_
        refine x_imul (pc := 29) dX12_layPut_29 ?_
        refine x_iloadn (pc := 30) dX12_layPut_30 rfl ?_
        refine x_iadd (pc := 31) dX12_layPut_31 ?_
        rw [hij]
        refine x_iald (24 * k + i) (pc := 32) dX12_layPut_32 k_148 (hL 148 (by decide) (by decide)) (⟨by omega, by omega, by decide⟩) ?_
        rw [hx]
        refine x_istoren (pc := 33) dX12_layPut_33 rfl (by decide) rfl ?_
        refine x_iloadn (pc := 34) dX12_layPut_34 rfl ?_
        refine x_aloadn (pc := 35) dX12_layPut_35 rfl ?_
        refine x_getI (pc := 36) dX12_layPut_36 fl_X12_240 k_127 (hL 127 (by decide) (by decide)) ?_
        rw [hpn]
        refine x_cne (tgt := 46) (pc := 39) dX12_layPut_39 (by decide) (by omega) (fun c_39 => ?_) (fun c_39 => ?_)
        · skip
          refine x_iconst (pc := 46) dX12_layPut_46 ?_
          refine x_istore (pc := 47) dX12_layPut_47 (by decide) rfl ?_
          refine x_iload (pc := 49) dX12_layPut_49 rfl ?_
          refine x_ieq (tgt := 85) (pc := 51) dX12_layPut_51 (by decide) (by omega) (fun c_51 => ?_) (fun c_51 => ?_)
          · skip
            refine x_iload (pc := 85) dX12_layPut_85 rfl ?_
            refine x_ieq (tgt := 98) (pc := 87) dX12_layPut_87 (by decide) (by omega) (fun c_87 => ?_) (fun c_87 => ?_)
            · skip
              refine x_aloadn (pc := 98) dX12_layPut_98 rfl ?_
              refine x_iloadn (pc := 99) dX12_layPut_99 rfl ?_
              refine x_iloadn (pc := 100) dX12_layPut_100 rfl ?_
              refine x_aloadn (pc := 101) dX12_layPut_101 rfl ?_
              refine x_getR (149) (pc := 102) dX12_layPut_102 fl_X12_74 k_127 (hL 127 (by decide) (by decide)) (f_127_27 hF) ?_
              refine x_iloadn (pc := 105) dX12_layPut_105 rfl ?_
              refine x_iald (k) (pc := 106) dX12_layPut_106 k_149 (hL 149 (by decide) (by decide)) (⟨by omega, by omega, by decide⟩) ?_
              rw [hmf]
              refine x_cge (tgt := 114) (pc := 107) dX12_layPut_107 (by decide) (by omega) (fun c_107 => ?_) (fun c_107 => ?_)
              · skip
                exact absurd c_107 (by omega)
              refine x_iconst (pc := 110) dX12_layPut_110 ?_
              refine x_goto (tgt := 115) (pc := 111) dX12_layPut_111 (by decide) ?_
              refine x_cVV (pc := 115) dX12_layPut_115 lk_X12_243 (c_mo_add1 hL hF hab (by omega)) k_127 ⟨by decide, rfl⟩ (hL 127 (by decide) (by decide)) (⟨by decide, by decide⟩) (Nat.le_of_ble_eq_true rfl) rfl ?_
              rintro G3 ⟨k3, k4, hF⟩
              refine x_iinc (pc := 118) dX12_layPut_118 rfl (by decide) rfl ?_
              refine x_goto (tgt := 12) (pc := 121) dX12_layPut_121 (by decide) ?_
              first
              | (rw [(q1 (by omega)).1, (q1 (by omega)).2, if_pos (by omega), if_neg (by omega), Int.toNat_natCast, List.append_cons _ P] at ihx; exact ihx _ _ _ k3 (hQ.tr k4) hF)
              | (rw [(q1 (by omega)).1, (q1 (by omega)).2, if_neg (by omega)] at ihx; exact ihx _ _ _ k3 (hQ.tr k4) hF)
            · skip
              refine x_aloadn (pc := 90) dX12_layPut_90 rfl ?_
              refine x_getI (pc := 91) dX12_layPut_91 fl_X12_237 k_127 (hL 127 (by decide) (by decide)) ?_
              rw [hpa]
              refine x_iconst (pc := 94) dX12_layPut_94 ?_
              refine x_ceq (tgt := 118) (pc := 95) dX12_layPut_95 (by decide) (by omega) (fun c_95 => ?_) (fun c_95 => ?_)
              · skip
                exact absurd c_95 (by omega)
              refine x_aloadn (pc := 98) dX12_layPut_98 rfl ?_
              refine x_iloadn (pc := 99) dX12_layPut_99 rfl ?_
              refine x_iloadn (pc := 100) dX12_layPut_100 rfl ?_
              refine x_aloadn (pc := 101) dX12_layPut_101 rfl ?_
              refine x_getR (149) (pc := 102) dX12_layPut_102 fl_X12_74 k_127 (hL 127 (by decide) (by decide)) (f_127_27 hF) ?_
              refine x_iloadn (pc := 105) dX12_layPut_105 rfl ?_
              refine x_iald (k) (pc := 106) dX12_layPut_106 k_149 (hL 149 (by decide) (by decide)) (⟨by omega, by omega, by decide⟩) ?_
              rw [hmf]
              refine x_cge (tgt := 114) (pc := 107) dX12_layPut_107 (by decide) (by omega) (fun c_107 => ?_) (fun c_107 => ?_)
              · skip
                exact absurd c_107 (by omega)
              refine x_iconst (pc := 110) dX12_layPut_110 ?_
              refine x_goto (tgt := 115) (pc := 111) dX12_layPut_111 (by decide) ?_
              refine x_cVV (pc := 115) dX12_layPut_115 lk_X12_243 (c_mo_add1 hL hF hab (by omega)) k_127 ⟨by decide, rfl⟩ (hL 127 (by decide) (by decide)) (⟨by decide, by decide⟩) (Nat.le_of_ble_eq_true rfl) rfl ?_
              rintro G3 ⟨k3, k4, hF⟩
              refine x_iinc (pc := 118) dX12_layPut_118 rfl (by decide) rfl ?_
              refine x_goto (tgt := 12) (pc := 121) dX12_layPut_121 (by decide) ?_
              first
              | (rw [(q1 (by omega)).1, (q1 (by omega)).2, if_pos (by omega), if_neg (by omega), Int.toNat_natCast, List.append_cons _ P] at ihx; exact ihx _ _ _ k3 (hQ.tr k4) hF)
              | (rw [(q1 (by omega)).1, (q1 (by omega)).2, if_neg (by omega)] at ihx; exact ihx _ _ _ k3 (hQ.tr k4) hF)
          · skip
            refine x_aloadn (pc := 54) dX12_layPut_54 rfl ?_
            refine x_getI (pc := 55) dX12_layPut_55 fl_X12_237 k_127 (hL 127 (by decide) (by decide)) ?_
            rw [hpa]
            refine x_iconst (pc := 58) dX12_layPut_58 ?_
            refine x_ceq (tgt := 85) (pc := 59) dX12_layPut_59 (by decide) (by omega) (fun c_59 => ?_) (fun c_59 => ?_)
            · skip
              exact absurd c_59 (by omega)
            refine x_aloadn (pc := 62) dX12_layPut_62 rfl ?_
            refine x_aloadn (pc := 63) dX12_layPut_63 rfl ?_
            refine x_getI (pc := 64) dX12_layPut_64 fl_X12_237 k_127 (hL 127 (by decide) (by decide)) ?_
            rw [hpa]
            refine x_iloadn (pc := 67) dX12_layPut_67 rfl ?_
            refine x_aloadn (pc := 68) dX12_layPut_68 rfl ?_
            refine x_getR (149) (pc := 69) dX12_layPut_69 fl_X12_74 k_127 (hL 127 (by decide) (by decide)) (f_127_27 hF) ?_
            refine x_iloadn (pc := 72) dX12_layPut_72 rfl ?_
            refine x_iald (k) (pc := 73) dX12_layPut_73 k_149 (hL 149 (by decide) (by decide)) (⟨by omega, by omega, by decide⟩) ?_
            rw [hmf]
            refine x_cge (tgt := 81) (pc := 74) dX12_layPut_74 (by decide) (by omega) (fun c_74 => ?_) (fun c_74 => ?_)
            · skip
              exact absurd c_74 (by omega)
            refine x_iconst (pc := 77) dX12_layPut_77 ?_
            refine x_goto (tgt := 82) (pc := 78) dX12_layPut_78 (by decide) ?_
            refine x_cVV (pc := 82) dX12_layPut_82 lk_X12_243 (c_mo_add1 hL hF hab (by omega)) k_127 ⟨by decide, rfl⟩ (hL 127 (by decide) (by decide)) (⟨by decide, by decide⟩) (Nat.le_of_ble_eq_true rfl) rfl ?_
            rintro G2 ⟨hab, k2, hF⟩
            have hl2 := len1
            have hpa : G2 127 40 = ((P : Nat) : Int) := by rw [k2 _ _ (by decide) (fun _ => by decide)]; exact hpa
            have hmf : G2 149 k = ((s.1.length : Nat) : Int) := by rw [k2 _ _ (by decide) (fun e => absurd e (by decide))]; exact hmf
            have hQ := hQ.tr k2
            refine x_iload (pc := 85) dX12_layPut_85 rfl ?_
            refine x_ieq (tgt := 98) (pc := 87) dX12_layPut_87 (by decide) (by omega) (fun c_87 => ?_) (fun c_87 => ?_)
            · skip
              refine x_aloadn (pc := 98) dX12_layPut_98 rfl ?_
              refine x_iloadn (pc := 99) dX12_layPut_99 rfl ?_
              refine x_iloadn (pc := 100) dX12_layPut_100 rfl ?_
              refine x_aloadn (pc := 101) dX12_layPut_101 rfl ?_
              refine x_getR (149) (pc := 102) dX12_layPut_102 fl_X12_74 k_127 (hL 127 (by decide) (by decide)) (f_127_27 hF) ?_
              refine x_iloadn (pc := 105) dX12_layPut_105 rfl ?_
              refine x_iald (k) (pc := 106) dX12_layPut_106 k_149 (hL 149 (by decide) (by decide)) (⟨by omega, by omega, by decide⟩) ?_
              rw [hmf]
              refine x_cge (tgt := 114) (pc := 107) dX12_layPut_107 (by decide) (by omega) (fun c_107 => ?_) (fun c_107 => ?_)
              · skip
                exact absurd c_107 (by omega)
              refine x_iconst (pc := 110) dX12_layPut_110 ?_
              refine x_goto (tgt := 115) (pc := 111) dX12_layPut_111 (by decide) ?_
              refine x_cVV (pc := 115) dX12_layPut_115 lk_X12_243 (c_mo_add1 hL hF hab (by omega)) k_127 ⟨by decide, rfl⟩ (hL 127 (by decide) (by decide)) (⟨by decide, by decide⟩) (Nat.le_of_ble_eq_true rfl) rfl ?_
              rintro G3 ⟨k3, k4, hF⟩
              refine x_iinc (pc := 118) dX12_layPut_118 rfl (by decide) rfl ?_
              refine x_goto (tgt := 12) (pc := 121) dX12_layPut_121 (by decide) ?_
              first
              | (rw [(q1 (by omega)).1, (q1 (by omega)).2, if_pos (by omega), if_neg (by omega), Int.toNat_natCast, List.append_cons _ P] at ihx; exact ihx _ _ _ k3 (hQ.tr k4) hF)
              | (rw [(q1 (by omega)).1, (q1 (by omega)).2, if_neg (by omega)] at ihx; exact ihx _ _ _ k3 (hQ.tr k4) hF)
            · skip
              refine x_aloadn (pc := 90) dX12_layPut_90 rfl ?_
              refine x_getI (pc := 91) dX12_layPut_91 fl_X12_237 k_127 (hL 127 (by decide) (by decide)) ?_
              rw [hpa]
              refine x_iconst (pc := 94) dX12_layPut_94 ?_
              refine x_ceq (tgt := 118) (pc := 95) dX12_layPut_95 (by decide) (by omega) (fun c_95 => ?_) (fun c_95 => ?_)
              · skip
                exact absurd c_95 (by omega)
              refine x_aloadn (pc := 98) dX12_layPut_98 rfl ?_
              refine x_iloadn (pc := 99) dX12_layPut_99 rfl ?_
              refine x_iloadn (pc := 100) dX12_layPut_100 rfl ?_
              refine x_aloadn (pc := 101) dX12_layPut_101 rfl ?_
              refine x_getR (149) (pc := 102) dX12_layPut_102 fl_X12_74 k_127 (hL 127 (by decide) (by decide)) (f_127_27 hF) ?_
              refine x_iloadn (pc := 105) dX12_layPut_105 rfl ?_
              refine x_iald (k) (pc := 106) dX12_layPut_106 k_149 (hL 149 (by decide) (by decide)) (⟨by omega, by omega, by decide⟩) ?_
              rw [hmf]
              refine x_cge (tgt := 114) (pc := 107) dX12_layPut_107 (by decide) (by omega) (fun c_107 => ?_) (fun c_107 => ?_)
              · skip
                exact absurd c_107 (by omega)
              refine x_iconst (pc := 110) dX12_layPut_110 ?_
              refine x_goto (tgt := 115) (pc := 111) dX12_layPut_111 (by decide) ?_
              refine x_cVV (pc := 115) dX12_layPut_115 lk_X12_243 (c_mo_add1 hL hF hab (by omega)) k_127 ⟨by decide, rfl⟩ (hL 127 (by decide) (by decide)) (⟨by decide, by decide⟩) (Nat.le_of_ble_eq_true rfl) rfl ?_
              rintro G3 ⟨k3, k4, hF⟩
              refine x_iinc (pc := 118) dX12_layPut_118 rfl (by decide) rfl ?_
              refine x_goto (tgt := 12) (pc := 121) dX12_layPut_121 (by decide) ?_
              first
              | (rw [(q1 (by omega)).1, (q1 (by omega)).2, if_pos (by omega), if_neg (by omega), Int.toNat_natCast, List.append_cons _ P] at ihx; exact ihx _ _ _ k3 (hQ.tr k4) hF)
              | (rw [(q1 (by omega)).1, (q1 (by omega)).2, if_neg (by omega)] at ihx; exact ihx _ _ _ k3 (hQ.tr k4) hF)
        · skip
          refine x_iconst (pc := 42) dX12_layPut_42 ?_
          refine x_goto (tgt := 47) (pc := 43) dX12_layPut_43 (by decide) ?_
          refine x_istore (pc := 47) dX12_layPut_47 (by decide) rfl ?_
          refine x_iload (pc := 49) dX12_layPut_49 rfl ?_
          refine x_ieq (tgt := 85) (pc := 51) dX12_layPut_51 (by decide) (by omega) (fun c_51 => ?_) (fun c_51 => ?_)
          · skip
            refine x_iload (pc := 85) dX12_layPut_85 rfl ?_
            refine x_ieq (tgt := 98) (pc := 87) dX12_layPut_87 (by decide) (by omega) (fun c_87 => ?_) (fun c_87 => ?_)
            · skip
              refine x_aloadn (pc := 98) dX12_layPut_98 rfl ?_
              refine x_iloadn (pc := 99) dX12_layPut_99 rfl ?_
              refine x_iloadn (pc := 100) dX12_layPut_100 rfl ?_
              refine x_aloadn (pc := 101) dX12_layPut_101 rfl ?_
              refine x_getR (149) (pc := 102) dX12_layPut_102 fl_X12_74 k_127 (hL 127 (by decide) (by decide)) (f_127_27 hF) ?_
              refine x_iloadn (pc := 105) dX12_layPut_105 rfl ?_
              refine x_iald (k) (pc := 106) dX12_layPut_106 k_149 (hL 149 (by decide) (by decide)) (⟨by omega, by omega, by decide⟩) ?_
              rw [hmf]
              refine x_cge (tgt := 114) (pc := 107) dX12_layPut_107 (by decide) (by omega) (fun c_107 => ?_) (fun c_107 => ?_)
              · skip
                exact absurd c_107 (by omega)
              refine x_iconst (pc := 110) dX12_layPut_110 ?_
              refine x_goto (tgt := 115) (pc := 111) dX12_layPut_111 (by decide) ?_
              refine x_cVV (pc := 115) dX12_layPut_115 lk_X12_243 (c_mo_add1 hL hF hab (by omega)) k_127 ⟨by decide, rfl⟩ (hL 127 (by decide) (by decide)) (⟨by decide, by decide⟩) (Nat.le_of_ble_eq_true rfl) rfl ?_
              rintro G3 ⟨k3, k4, hF⟩
              refine x_iinc (pc := 118) dX12_layPut_118 rfl (by decide) rfl ?_
              refine x_goto (tgt := 12) (pc := 121) dX12_layPut_121 (by decide) ?_
              first
              | (rw [(q1 (by omega)).1, (q1 (by omega)).2, if_pos (by omega), if_neg (by omega), Int.toNat_natCast, List.append_cons _ P] at ihx; exact ihx _ _ _ k3 (hQ.tr k4) hF)
              | (rw [(q1 (by omega)).1, (q1 (by omega)).2, if_neg (by omega)] at ihx; exact ihx _ _ _ k3 (hQ.tr k4) hF)
            · skip
              refine x_aloadn (pc := 90) dX12_layPut_90 rfl ?_
              refine x_getI (pc := 91) dX12_layPut_91 fl_X12_237 k_127 (hL 127 (by decide) (by decide)) ?_
              rw [hpa]
              refine x_iconst (pc := 94) dX12_layPut_94 ?_
              refine x_ceq (tgt := 118) (pc := 95) dX12_layPut_95 (by decide) (by omega) (fun c_95 => ?_) (fun c_95 => ?_)
              · skip
                exact absurd c_95 (by omega)
              refine x_aloadn (pc := 98) dX12_layPut_98 rfl ?_
              refine x_iloadn (pc := 99) dX12_layPut_99 rfl ?_
              refine x_iloadn (pc := 100) dX12_layPut_100 rfl ?_
              refine x_aloadn (pc := 101) dX12_layPut_101 rfl ?_
              refine x_getR (149) (pc := 102) dX12_layPut_102 fl_X12_74 k_127 (hL 127 (by decide) (by decide)) (f_127_27 hF) ?_
              refine x_iloadn (pc := 105) dX12_layPut_105 rfl ?_
              refine x_iald (k) (pc := 106) dX12_layPut_106 k_149 (hL 149 (by decide) (by decide)) (⟨by omega, by omega, by decide⟩) ?_
              rw [hmf]
              refine x_cge (tgt := 114) (pc := 107) dX12_layPut_107 (by decide) (by omega) (fun c_107 => ?_) (fun c_107 => ?_)
              · skip
                exact absurd c_107 (by omega)
              refine x_iconst (pc := 110) dX12_layPut_110 ?_
              refine x_goto (tgt := 115) (pc := 111) dX12_layPut_111 (by decide) ?_
              refine x_cVV (pc := 115) dX12_layPut_115 lk_X12_243 (c_mo_add1 hL hF hab (by omega)) k_127 ⟨by decide, rfl⟩ (hL 127 (by decide) (by decide)) (⟨by decide, by decide⟩) (Nat.le_of_ble_eq_true rfl) rfl ?_
              rintro G3 ⟨k3, k4, hF⟩
              refine x_iinc (pc := 118) dX12_layPut_118 rfl (by decide) rfl ?_
              refine x_goto (tgt := 12) (pc := 121) dX12_layPut_121 (by decide) ?_
              first
              | (rw [(q1 (by omega)).1, (q1 (by omega)).2, if_pos (by omega), if_neg (by omega), Int.toNat_natCast, List.append_cons _ P] at ihx; exact ihx _ _ _ k3 (hQ.tr k4) hF)
              | (rw [(q1 (by omega)).1, (q1 (by omega)).2, if_neg (by omega)] at ihx; exact ihx _ _ _ k3 (hQ.tr k4) hF)
          · skip
            refine x_aloadn (pc := 54) dX12_layPut_54 rfl ?_
            refine x_getI (pc := 55) dX12_layPut_55 fl_X12_237 k_127 (hL 127 (by decide) (by decide)) ?_
            rw [hpa]
            refine x_iconst (pc := 58) dX12_layPut_58 ?_
            refine x_ceq (tgt := 85) (pc := 59) dX12_layPut_59 (by decide) (by omega) (fun c_59 => ?_) (fun c_59 => ?_)
            · skip
              exact absurd c_59 (by omega)
            refine x_aloadn (pc := 62) dX12_layPut_62 rfl ?_
            refine x_aloadn (pc := 63) dX12_layPut_63 rfl ?_
            refine x_getI (pc := 64) dX12_layPut_64 fl_X12_237 k_127 (hL 127 (by decide) (by decide)) ?_
            rw [hpa]
            refine x_iloadn (pc := 67) dX12_layPut_67 rfl ?_
            refine x_aloadn (pc := 68) dX12_layPut_68 rfl ?_
            refine x_getR (149) (pc := 69) dX12_layPut_69 fl_X12_74 k_127 (hL 127 (by decide) (by decide)) (f_127_27 hF) ?_
            refine x_iloadn (pc := 72) dX12_layPut_72 rfl ?_
            refine x_iald (k) (pc := 73) dX12_layPut_73 k_149 (hL 149 (by decide) (by decide)) (⟨by omega, by omega, by decide⟩) ?_
            rw [hmf]
            refine x_cge (tgt := 81) (pc := 74) dX12_layPut_74 (by decide) (by omega) (fun c_74 => ?_) (fun c_74 => ?_)
            · skip
              exact absurd c_74 (by omega)
            refine x_iconst (pc := 77) dX12_layPut_77 ?_
            refine x_goto (tgt := 82) (pc := 78) dX12_layPut_78 (by decide) ?_
            refine x_cVV (pc := 82) dX12_layPut_82 lk_X12_243 (c_mo_add1 hL hF hab (by omega)) k_127 ⟨by decide, rfl⟩ (hL 127 (by decide) (by decide)) (⟨by decide, by decide⟩) (Nat.le_of_ble_eq_true rfl) rfl ?_
            rintro G2 ⟨hab, k2, hF⟩
            have hl2 := len1
            have hpa : G2 127 40 = ((P : Nat) : Int) := by rw [k2 _ _ (by decide) (fun _ => by decide)]; exact hpa
            have hmf : G2 149 k = ((s.1.length : Nat) : Int) := by rw [k2 _ _ (by decide) (fun e => absurd e (by decide))]; exact hmf
            have hQ := hQ.tr k2
            refine x_iload (pc := 85) dX12_layPut_85 rfl ?_
            refine x_ieq (tgt := 98) (pc := 87) dX12_layPut_87 (by decide) (by omega) (fun c_87 => ?_) (fun c_87 => ?_)
            · skip
              refine x_aloadn (pc := 98) dX12_layPut_98 rfl ?_
              refine x_iloadn (pc := 99) dX12_layPut_99 rfl ?_
              refine x_iloadn (pc := 100) dX12_layPut_100 rfl ?_
              refine x_aloadn (pc := 101) dX12_layPut_101 rfl ?_
              refine x_getR (149) (pc := 102) dX12_layPut_102 fl_X12_74 k_127 (hL 127 (by decide) (by decide)) (f_127_27 hF) ?_
              refine x_iloadn (pc := 105) dX12_layPut_105 rfl ?_
              refine x_iald (k) (pc := 106) dX12_layPut_106 k_149 (hL 149 (by decide) (by decide)) (⟨by omega, by omega, by decide⟩) ?_
              rw [hmf]
              refine x_cge (tgt := 114) (pc := 107) dX12_layPut_107 (by decide) (by omega) (fun c_107 => ?_) (fun c_107 => ?_)
              · skip
                exact absurd c_107 (by omega)
              refine x_iconst (pc := 110) dX12_layPut_110 ?_
              refine x_goto (tgt := 115) (pc := 111) dX12_layPut_111 (by decide) ?_
              refine x_cVV (pc := 115) dX12_layPut_115 lk_X12_243 (c_mo_add1 hL hF hab (by omega)) k_127 ⟨by decide, rfl⟩ (hL 127 (by decide) (by decide)) (⟨by decide, by decide⟩) (Nat.le_of_ble_eq_true rfl) rfl ?_
              rintro G3 ⟨k3, k4, hF⟩
              refine x_iinc (pc := 118) dX12_layPut_118 rfl (by decide) rfl ?_
              refine x_goto (tgt := 12) (pc := 121) dX12_layPut_121 (by decide) ?_
              first
              | (rw [(q1 (by omega)).1, (q1 (by omega)).2, if_pos (by omega), if_neg (by omega), Int.toNat_natCast, List.append_cons _ P] at ihx; exact ihx _ _ _ k3 (hQ.tr k4) hF)
              | (rw [(q1 (by omega)).1, (q1 (by omega)).2, if_neg (by omega)] at ihx; exact ihx _ _ _ k3 (hQ.tr k4) hF)
            · skip
              refine x_aloadn (pc := 90) dX12_layPut_90 rfl ?_
              refine x_getI (pc := 91) dX12_layPut_91 fl_X12_237 k_127 (hL 127 (by decide) (by decide)) ?_
              rw [hpa]
              refine x_iconst (pc := 94) dX12_layPut_94 ?_
              refine x_ceq (tgt := 118) (pc := 95) dX12_layPut_95 (by decide) (by omega) (fun c_95 => ?_) (fun c_95 => ?_)
              · skip
                exact absurd c_95 (by omega)
              refine x_aloadn (pc := 98) dX12_layPut_98 rfl ?_
              refine x_iloadn (pc := 99) dX12_layPut_99 rfl ?_
              refine x_iloadn (pc := 100) dX12_layPut_100 rfl ?_
              refine x_aloadn (pc := 101) dX12_layPut_101 rfl ?_
              refine x_getR (149) (pc := 102) dX12_layPut_102 fl_X12_74 k_127 (hL 127 (by decide) (by decide)) (f_127_27 hF) ?_
              refine x_iloadn (pc := 105) dX12_layPut_105 rfl ?_
              refine x_iald (k) (pc := 106) dX12_layPut_106 k_149 (hL 149 (by decide) (by decide)) (⟨by omega, by omega, by decide⟩) ?_
              rw [hmf]
              refine x_cge (tgt := 114) (pc := 107) dX12_layPut_107 (by decide) (by omega) (fun c_107 => ?_) (fun c_107 => ?_)
              · skip
                exact absurd c_107 (by omega)
              refine x_iconst (pc := 110) dX12_layPut_110 ?_
              refine x_goto (tgt := 115) (pc := 111) dX12_layPut_111 (by decide) ?_
              refine x_cVV (pc := 115) dX12_layPut_115 lk_X12_243 (c_mo_add1 hL hF hab (by omega)) k_127 ⟨by decide, rfl⟩ (hL 127 (by decide) (by decide)) (⟨by decide, by decide⟩) (Nat.le_of_ble_eq_true rfl) rfl ?_
              rintro G3 ⟨k3, k4, hF⟩
              refine x_iinc (pc := 118) dX12_layPut_118 rfl (by decide) rfl ?_
              refine x_goto (tgt := 12) (pc := 121) dX12_layPut_121 (by decide) ?_
              first
              | (rw [(q1 (by omega)).1, (q1 (by omega)).2, if_pos (by omega), if_neg (by omega), Int.toNat_natCast, List.append_cons _ P] at ihx; exact ihx _ _ _ k3 (hQ.tr k4) hF)
              | (rw [(q1 (by omega)).1, (q1 (by omega)).2, if_neg (by omega)] at ihx; exact ihx _ _ _ k3 (hQ.tr k4) hF)
      · skip
        refine x_iloadn (pc := 12) dX12_layPut_12 rfl ?_
        refine x_aloadn (pc := 13) dX12_layPut_13 rfl ?_
        refine x_getR (150) (pc := 14) dX12_layPut_14 fl_X12_77 k_127 (hL 127 (by decide) (by decide)) (f_127_28 hF) ?_
        refine x_iloadn (pc := 17) dX12_layPut_17 rfl ?_
        refine x_iald (k) (pc := 18) dX12_layPut_18 k_150 (hL 150 (by decide) (by decide)) (⟨by omega, by omega, by decide⟩) ?_
        rw [hma]
        refine x_cge (tgt := 124) (pc := 19) dX12_layPut_19 (by decide) (by omega) (fun c_19 => ?_) (fun c_19 => ?_)
        · skip
          exact absurd c_19 (by omega)
        refine x_aloadn (pc := 22) dX12_layPut_22 rfl ?_
        refine x_getR (148) (pc := 23) dX12_layPut_23 fl_X12_71 k_127 (hL 127 (by decide) (by decide)) (f_127_26 hF) ?_
        refine x_bipush (pc := 26) dX12_layPut_26 (by decide) ?_
        refine x_iloadn (pc := 28) dX12_layPut_28 rfl ?_
        refine x_imul (pc := 29) dX12_layPut_29 ?_
        refine x_iloadn (pc := 30) dX12_layPut_30 rfl ?_
        refine x_iadd (pc := 31) dX12_layPut_31 ?_
        rw [hij]
        refine x_iald (24 * k + i) (pc := 32) dX12_layPut_32 k_148 (hL 148 (by decide) (by decide)) (⟨by omega, by omega, by decide⟩) ?_
        rw [hx]
        refine x_istoren (pc := 33) dX12_layPut_33 rfl (by decide) rfl ?_
        refine x_iloadn (pc := 34) dX12_layPut_34 rfl ?_
        refine x_aloadn (pc := 35) dX12_layPut_35 rfl ?_
        refine x_getI (pc := 36) dX12_layPut_36 fl_X12_240 k_127 (hL 127 (by decide) (by decide)) ?_
        rw [hpn]
        refine x_cne (tgt := 46) (pc := 39) dX12_layPut_39 (by decide) (by omega) (fun c_39 => ?_) (fun c_39 => ?_)
        · skip
          refine x_iconst (pc := 46) dX12_layPut_46 ?_
          refine x_istore (pc := 47) dX12_layPut_47 (by decide) rfl ?_
          refine x_iload (pc := 49) dX12_layPut_49 rfl ?_
          refine x_ieq (tgt := 85) (pc := 51) dX12_layPut_51 (by decide) (by omega) (fun c_51 => ?_) (fun c_51 => ?_)
          · skip
            refine x_iload (pc := 85) dX12_layPut_85 rfl ?_
            refine x_ieq (tgt := 98) (pc := 87) dX12_layPut_87 (by decide) (by omega) (fun c_87 => ?_) (fun c_87 => ?_)
            · skip
              refine x_aloadn (pc := 98) dX12_layPut_98 rfl ?_
              refine x_iloadn (pc := 99) dX12_layPut_99 rfl ?_
              refine x_iloadn (pc := 100) dX12_layPut_100 rfl ?_
              refine x_aloadn (pc := 101) dX12_layPut_101 rfl ?_
              refine x_getR (149) (pc := 102) dX12_layPut_102 fl_X12_74 k_127 (hL 127 (by decide) (by decide)) (f_127_27 hF) ?_
              refine x_iloadn (pc := 105) dX12_layPut_105 rfl ?_
              refine x_iald (k) (pc := 106) dX12_layPut_106 k_149 (hL 149 (by decide) (by decide)) (⟨by omega, by omega, by decide⟩) ?_
              rw [hmf]
              refine x_cge (tgt := 114) (pc := 107) dX12_layPut_107 (by decide) (by omega) (fun c_107 => ?_) (fun c_107 => ?_)
              rotate_left
              · skip
                exact absurd c_107 (by omega)
              refine x_iconst (pc := 114) dX12_layPut_114 ?_
              refine x_cVV (pc := 115) dX12_layPut_115 lk_X12_243 (c_mo_add0 hL hF hab (by omega)) k_127 ⟨by decide, rfl⟩ (hL 127 (by decide) (by decide)) (⟨by decide, by decide⟩) (Nat.le_of_ble_eq_true rfl) rfl ?_
              rintro G3 ⟨k3, k4, hF⟩
              refine x_iinc (pc := 118) dX12_layPut_118 rfl (by decide) rfl ?_
              refine x_goto (tgt := 12) (pc := 121) dX12_layPut_121 (by decide) ?_
              first
              | (rw [(q0 (by omega)).1, (q0 (by omega)).2, if_pos (by omega), if_neg (by omega), Int.toNat_natCast, List.append_cons _ P] at ihx; exact ihx _ _ _ k3 (hQ.tr k4) hF)
              | (rw [(q0 (by omega)).1, (q0 (by omega)).2, if_neg (by omega)] at ihx; exact ihx _ _ _ k3 (hQ.tr k4) hF)
            · skip
              refine x_aloadn (pc := 90) dX12_layPut_90 rfl ?_
              refine x_getI (pc := 91) dX12_layPut_91 fl_X12_237 k_127 (hL 127 (by decide) (by decide)) ?_
              rw [hpa]
              refine x_iconst (pc := 94) dX12_layPut_94 ?_
              refine x_ceq (tgt := 118) (pc := 95) dX12_layPut_95 (by decide) (by omega) (fun c_95 => ?_) (fun c_95 => ?_)
              · skip
                exact absurd c_95 (by omega)
              refine x_aloadn (pc := 98) dX12_layPut_98 rfl ?_
              refine x_iloadn (pc := 99) dX12_layPut_99 rfl ?_
              refine x_iloadn (pc := 100) dX12_layPut_100 rfl ?_
              refine x_aloadn (pc := 101) dX12_layPut_101 rfl ?_
              refine x_getR (149) (pc := 102) dX12_layPut_102 fl_X12_74 k_127 (hL 127 (by decide) (by decide)) (f_127_27 hF) ?_
              refine x_iloadn (pc := 105) dX12_layPut_105 rfl ?_
              refine x_iald (k) (pc := 106) dX12_layPut_106 k_149 (hL 149 (by decide) (by decide)) (⟨by omega, by omega, by decide⟩) ?_
              rw [hmf]
              refine x_cge (tgt := 114) (pc := 107) dX12_layPut_107 (by decide) (by omega) (fun c_107 => ?_) (fun c_107 => ?_)
              rotate_left
              · skip
                exact absurd c_107 (by omega)
              refine x_iconst (pc := 114) dX12_layPut_114 ?_
              refine x_cVV (pc := 115) dX12_layPut_115 lk_X12_243 (c_mo_add0 hL hF hab (by omega)) k_127 ⟨by decide, rfl⟩ (hL 127 (by decide) (by decide)) (⟨by decide, by decide⟩) (Nat.le_of_ble_eq_true rfl) rfl ?_
              rintro G3 ⟨k3, k4, hF⟩
              refine x_iinc (pc := 118) dX12_layPut_118 rfl (by decide) rfl ?_
              refine x_goto (tgt := 12) (pc := 121) dX12_layPut_121 (by decide) ?_
              first
              | (rw [(q0 (by omega)).1, (q0 (by omega)).2, if_pos (by omega), if_neg (by omega), Int.toNat_natCast, List.append_cons _ P] at ihx; exact ihx _ _ _ k3 (hQ.tr k4) hF)
              | (rw [(q0 (by omega)).1, (q0 (by omega)).2, if_neg (by omega)] at ihx; exact ihx _ _ _ k3 (hQ.tr k4) hF)
          · skip
            refine x_aloadn (pc := 54) dX12_layPut_54 rfl ?_
            refine x_getI (pc := 55) dX12_layPut_55 fl_X12_237 k_127 (hL 127 (by decide) (by decide)) ?_
            rw [hpa]
            refine x_iconst (pc := 58) dX12_layPut_58 ?_
            refine x_ceq (tgt := 85) (pc := 59) dX12_layPut_59 (by decide) (by omega) (fun c_59 => ?_) (fun c_59 => ?_)
            · skip
              exact absurd c_59 (by omega)
            refine x_aloadn (pc := 62) dX12_layPut_62 rfl ?_
            refine x_aloadn (pc := 63) dX12_layPut_63 rfl ?_
            refine x_getI (pc := 64) dX12_layPut_64 fl_X12_237 k_127 (hL 127 (by decide) (by decide)) ?_
            rw [hpa]
            refine x_iloadn (pc := 67) dX12_layPut_67 rfl ?_
            refine x_aloadn (pc := 68) dX12_layPut_68 rfl ?_
            refine x_getR (149) (pc := 69) dX12_layPut_69 fl_X12_74 k_127 (hL 127 (by decide) (by decide)) (f_127_27 hF) ?_
            refine x_iloadn (pc := 72) dX12_layPut_72 rfl ?_
            refine x_iald (k) (pc := 73) dX12_layPut_73 k_149 (hL 149 (by decide) (by decide)) (⟨by omega, by omega, by decide⟩) ?_
            rw [hmf]
            refine x_cge (tgt := 81) (pc := 74) dX12_layPut_74 (by decide) (by omega) (fun c_74 => ?_) (fun c_74 => ?_)
            rotate_left
            · skip
              exact absurd c_74 (by omega)
            refine x_iconst (pc := 81) dX12_layPut_81 ?_
            refine x_cVV (pc := 82) dX12_layPut_82 lk_X12_243 (c_mo_add0 hL hF hab (by omega)) k_127 ⟨by decide, rfl⟩ (hL 127 (by decide) (by decide)) (⟨by decide, by decide⟩) (Nat.le_of_ble_eq_true rfl) rfl ?_
            rintro G2 ⟨hab, k2, hF⟩
            have hl2 := len0
            have hpa : G2 127 40 = ((P : Nat) : Int) := by rw [k2 _ _ (by decide) (fun _ => by decide)]; exact hpa
            have hmf : G2 149 k = ((s.1.length : Nat) : Int) := by rw [k2 _ _ (by decide) (fun e => absurd e (by decide))]; exact hmf
            have hQ := hQ.tr k2
            refine x_iload (pc := 85) dX12_layPut_85 rfl ?_
            refine x_ieq (tgt := 98) (pc := 87) dX12_layPut_87 (by decide) (by omega) (fun c_87 => ?_) (fun c_87 => ?_)
            · skip
              refine x_aloadn (pc := 98) dX12_layPut_98 rfl ?_
              refine x_iloadn (pc := 99) dX12_layPut_99 rfl ?_
              refine x_iloadn (pc := 100) dX12_layPut_100 rfl ?_
              refine x_aloadn (pc := 101) dX12_layPut_101 rfl ?_
              refine x_getR (149) (pc := 102) dX12_layPut_102 fl_X12_74 k_127 (hL 127 (by decide) (by decide)) (f_127_27 hF) ?_
              refine x_iloadn (pc := 105) dX12_layPut_105 rfl ?_
              refine x_iald (k) (pc := 106) dX12_layPut_106 k_149 (hL 149 (by decide) (by decide)) (⟨by omega, by omega, by decide⟩) ?_
              rw [hmf]
              refine x_cge (tgt := 114) (pc := 107) dX12_layPut_107 (by decide) (by omega) (fun c_107 => ?_) (fun c_107 => ?_)
              rotate_left
              · skip
                exact absurd c_107 (by omega)
              refine x_iconst (pc := 114) dX12_layPut_114 ?_
              refine x_cVV (pc := 115) dX12_layPut_115 lk_X12_243 (c_mo_add0 hL hF hab (by omega)) k_127 ⟨by decide, rfl⟩ (hL 127 (by decide) (by decide)) (⟨by decide, by decide⟩) (Nat.le_of_ble_eq_true rfl) rfl ?_
              rintro G3 ⟨k3, k4, hF⟩
              refine x_iinc (pc := 118) dX12_layPut_118 rfl (by decide) rfl ?_
              refine x_goto (tgt := 12) (pc := 121) dX12_layPut_121 (by decide) ?_
              first
              | (rw [(q0 (by omega)).1, (q0 (by omega)).2, if_pos (by omega), if_neg (by omega), Int.toNat_natCast, List.append_cons _ P] at ihx; exact ihx _ _ _ k3 (hQ.tr k4) hF)
              | (rw [(q0 (by omega)).1, (q0 (by omega)).2, if_neg (by omega)] at ihx; exact ihx _ _ _ k3 (hQ.tr k4) hF)
            · skip
              refine x_aloadn (pc := 90) dX12_layPut_90 rfl ?_
              refine x_getI (pc := 91) dX12_layPut_91 fl_X12_237 k_127 (hL 127 (by decide) (by decide)) ?_
              rw [hpa]
              refine x_iconst (pc := 94) dX12_layPut_94 ?_
              refine x_ceq (tgt := 118) (pc := 95) dX12_layPut_95 (by decide) (by omega) (fun c_95 => ?_) (fun c_95 => ?_)
              · skip
                exact absurd c_95 (by omega)
              refine x_aloadn (pc := 98) dX12_layPut_98 rfl ?_
              refine x_iloadn (pc := 99) dX12_layPut_99 rfl ?_
              refine x_iloadn (pc := 100) dX12_layPut_100 rfl ?_
              refine x_aloadn (pc := 101) dX12_layPut_101 rfl ?_
              refine x_getR (149) (pc := 102) dX12_layPut_102 fl_X12_74 k_127 (hL 127 (by decide) (by decide)) (f_127_27 hF) ?_
              refine x_iloadn (pc := 105) dX12_layPut_105 rfl ?_
              refine x_iald (k) (pc := 106) dX12_layPut_106 k_149 (hL 149 (by decide) (by decide)) (⟨by omega, by omega, by decide⟩) ?_
              rw [hmf]
              refine x_cge (tgt := 114) (pc := 107) dX12_layPut_107 (by decide) (by omega) (fun c_107 => ?_) (fun c_107 => ?_)
              rotate_left
              · skip
                exact absurd c_107 (by omega)
              refine x_iconst (pc := 114) dX12_layPut_114 ?_
              refine x_cVV (pc := 115) dX12_layPut_115 lk_X12_243 (c_mo_add0 hL hF hab (by omega)) k_127 ⟨by decide, rfl⟩ (hL 127 (by decide) (by decide)) (⟨by decide, by decide⟩) (Nat.le_of_ble_eq_true rfl) rfl ?_
              rintro G3 ⟨k3, k4, hF⟩
              refine x_iinc (pc := 118) dX12_layPut_118 rfl (by decide) rfl ?_
              refine x_goto (tgt := 12) (pc := 121) dX12_layPut_121 (by decide) ?_
              first
              | (rw [(q0 (by omega)).1, (q0 (by omega)).2, if_pos (by omega), if_neg (by omega), Int.toNat_natCast, List.append_cons _ P] at ihx; exact ihx _ _ _ k3 (hQ.tr k4) hF)
              | (rw [(q0 (by omega)).1, (q0 (by omega)).2, if_neg (by omega)] at ihx; exact ihx _ _ _ k3 (hQ.tr k4) hF)
        · skip
          refine x_iconst (pc := 42) dX12_layPut_42 ?_
          refine x_goto (tgt := 47) (pc := 43) dX12_layPut_43 (by decide) ?_
          refine x_istore (pc := 47) dX12_layPut_47 (by decide) rfl ?_
          refine x_iload (pc := 49) dX12_layPut_49 rfl ?_
          refine x_ieq (tgt := 85) (pc := 51) dX12_layPut_51 (by decide) (by omega) (fun c_51 => ?_) (fun c_51 => ?_)
          · skip
            refine x_iload (pc := 85) dX12_layPut_85 rfl ?_
            refine x_ieq (tgt := 98) (pc := 87) dX12_layPut_87 (by decide) (by omega) (fun c_87 => ?_) (fun c_87 => ?_)
            · skip
              refine x_aloadn (pc := 98) dX12_layPut_98 rfl ?_
              refine x_iloadn (pc := 99) dX12_layPut_99 rfl ?_
              refine x_iloadn (pc := 100) dX12_layPut_100 rfl ?_
              refine x_aloadn (pc := 101) dX12_layPut_101 rfl ?_
              refine x_getR (149) (pc := 102) dX12_layPut_102 fl_X12_74 k_127 (hL 127 (by decide) (by decide)) (f_127_27 hF) ?_
              refine x_iloadn (pc := 105) dX12_layPut_105 rfl ?_
              refine x_iald (k) (pc := 106) dX12_layPut_106 k_149 (hL 149 (by decide) (by decide)) (⟨by omega, by omega, by decide⟩) ?_
              rw [hmf]
              refine x_cge (tgt := 114) (pc := 107) dX12_layPut_107 (by decide) (by omega) (fun c_107 => ?_) (fun c_107 => ?_)
              rotate_left
              · skip
                exact absurd c_107 (by omega)
              refine x_iconst (pc := 114) dX12_layPut_114 ?_
              refine x_cVV (pc := 115) dX12_layPut_115 lk_X12_243 (c_mo_add0 hL hF hab (by omega)) k_127 ⟨by decide, rfl⟩ (hL 127 (by decide) (by decide)) (⟨by decide, by decide⟩) (Nat.le_of_ble_eq_true rfl) rfl ?_
              rintro G3 ⟨k3, k4, hF⟩
              refine x_iinc (pc := 118) dX12_layPut_118 rfl (by decide) rfl ?_
              refine x_goto (tgt := 12) (pc := 121) dX12_layPut_121 (by decide) ?_
              first
              | (rw [(q0 (by omega)).1, (q0 (by omega)).2, if_pos (by omega), if_neg (by omega), Int.toNat_natCast, List.append_cons _ P] at ihx; exact ihx _ _ _ k3 (hQ.tr k4) hF)
              | (rw [(q0 (by omega)).1, (q0 (by omega)).2, if_neg (by omega)] at ihx; exact ihx _ _ _ k3 (hQ.tr k4) hF)
            · skip
              refine x_aloadn (pc := 90) dX12_layPut_90 rfl ?_
              refine x_getI (pc := 91) dX12_layPut_91 fl_X12_237 k_127 (hL 127 (by decide) (by decide)) ?_
              rw [hpa]
              refine x_iconst (pc := 94) dX12_layPut_94 ?_
              refine x_ceq (tgt := 118) (pc := 95) dX12_layPut_95 (by decide) (by omega) (fun c_95 => ?_) (fun c_95 => ?_)
              · skip
                exact absurd c_95 (by omega)
              refine x_aloadn (pc := 98) dX12_layPut_98 rfl ?_
              refine x_iloadn (pc := 99) dX12_layPut_99 rfl ?_
              refine x_iloadn (pc := 100) dX12_layPut_100 rfl ?_
              refine x_aloadn (pc := 101) dX12_layPut_101 rfl ?_
              refine x_getR (149) (pc := 102) dX12_layPut_102 fl_X12_74 k_127 (hL 127 (by decide) (by decide)) (f_127_27 hF) ?_
              refine x_iloadn (pc := 105) dX12_layPut_105 rfl ?_
              refine x_iald (k) (pc := 106) dX12_layPut_106 k_149 (hL 149 (by decide) (by decide)) (⟨by omega, by omega, by decide⟩) ?_
              rw [hmf]
              refine x_cge (tgt := 114) (pc := 107) dX12_layPut_107 (by decide) (by omega) (fun c_107 => ?_) (fun c_107 => ?_)
              rotate_left
              · skip
                exact absurd c_107 (by omega)
              refine x_iconst (pc := 114) dX12_layPut_114 ?_
              refine x_cVV (pc := 115) dX12_layPut_115 lk_X12_243 (c_mo_add0 hL hF hab (by omega)) k_127 ⟨by decide, rfl⟩ (hL 127 (by decide) (by decide)) (⟨by decide, by decide⟩) (Nat.le_of_ble_eq_true rfl) rfl ?_
              rintro G3 ⟨k3, k4, hF⟩
              refine x_iinc (pc := 118) dX12_layPut_118 rfl (by decide) rfl ?_
              refine x_goto (tgt := 12) (pc := 121) dX12_layPut_121 (by decide) ?_
              first
              | (rw [(q0 (by omega)).1, (q0 (by omega)).2, if_pos (by omega), if_neg (by omega), Int.toNat_natCast, List.append_cons _ P] at ihx; exact ihx _ _ _ k3 (hQ.tr k4) hF)
              | (rw [(q0 (by omega)).1, (q0 (by omega)).2, if_neg (by omega)] at ihx; exact ihx _ _ _ k3 (hQ.tr k4) hF)
          · skip
            refine x_aloadn (pc := 54) dX12_layPut_54 rfl ?_
            refine x_getI (pc := 55) dX12_layPut_55 fl_X12_237 k_127 (hL 127 (by decide) (by decide)) ?_
            rw [hpa]
            refine x_iconst (pc := 58) dX12_layPut_58 ?_
            refine x_ceq (tgt := 85) (pc := 59) dX12_layPut_59 (by decide) (by omega) (fun c_59 => ?_) (fun c_59 => ?_)
            · skip
              exact absurd c_59 (by omega)
            refine x_aloadn (pc := 62) dX12_layPut_62 rfl ?_
            refine x_aloadn (pc := 63) dX12_layPut_63 rfl ?_
            refine x_getI (pc := 64) dX12_layPut_64 fl_X12_237 k_127 (hL 127 (by decide) (by decide)) ?_
            rw [hpa]
            refine x_iloadn (pc := 67) dX12_layPut_67 rfl ?_
            refine x_aloadn (pc := 68) dX12_layPut_68 rfl ?_
            refine x_getR (149) (pc := 69) dX12_layPut_69 fl_X12_74 k_127 (hL 127 (by decide) (by decide)) (f_127_27 hF) ?_
            refine x_iloadn (pc := 72) dX12_layPut_72 rfl ?_
            refine x_iald (k) (pc := 73) dX12_layPut_73 k_149 (hL 149 (by decide) (by decide)) (⟨by omega, by omega, by decide⟩) ?_
            rw [hmf]
            refine x_cge (tgt := 81) (pc := 74) dX12_layPut_74 (by decide) (by omega) (fun c_74 => ?_) (fun c_74 => ?_)
            rotate_left
            · skip
              exact absurd c_74 (by omega)
            refine x_iconst (pc := 81) dX12_layPut_81 ?_
            refine x_cVV (pc := 82) dX12_layPut_82 lk_X12_243 (c_mo_add0 hL hF hab (by omega)) k_127 ⟨by decide, rfl⟩ (hL 127 (by decide) (by decide)) (⟨by decide, by decide⟩) (Nat.le_of_ble_eq_true rfl) rfl ?_
            rintro G2 ⟨hab, k2, hF⟩
            have hl2 := len0
            have hpa : G2 127 40 = ((P : Nat) : Int) := by rw [k2 _ _ (by decide) (fun _ => by decide)]; exact hpa
            have hmf : G2 149 k = ((s.1.length : Nat) : Int) := by rw [k2 _ _ (by decide) (fun e => absurd e (by decide))]; exact hmf
            have hQ := hQ.tr k2
            refine x_iload (pc := 85) dX12_layPut_85 rfl ?_
            refine x_ieq (tgt := 98) (pc := 87) dX12_layPut_87 (by decide) (by omega) (fun c_87 => ?_) (fun c_87 => ?_)
            · skip
              refine x_aloadn (pc := 98) dX12_layPut_98 rfl ?_
              refine x_iloadn (pc := 99) dX12_layPut_99 rfl ?_
              refine x_iloadn (pc := 100) dX12_layPut_100 rfl ?_
              refine x_aloadn (pc := 101) dX12_layPut_101 rfl ?_
              refine x_getR (149) (pc := 102) dX12_layPut_102 fl_X12_74 k_127 (hL 127 (by decide) (by decide)) (f_127_27 hF) ?_
              refine x_iloadn (pc := 105) dX12_layPut_105 rfl ?_
              refine x_iald (k) (pc := 106) dX12_layPut_106 k_149 (hL 149 (by decide) (by decide)) (⟨by omega, by omega, by decide⟩) ?_
              rw [hmf]
              refine x_cge (tgt := 114) (pc := 107) dX12_layPut_107 (by decide) (by omega) (fun c_107 => ?_) (fun c_107 => ?_)
              rotate_left
              · skip
                exact absurd c_107 (by omega)
              refine x_iconst (pc := 114) dX12_layPut_114 ?_
              refine x_cVV (pc := 115) dX12_layPut_115 lk_X12_243 (c_mo_add0 hL hF hab (by omega)) k_127 ⟨by decide, rfl⟩ (hL 127 (by decide) (by decide)) (⟨by decide, by decide⟩) (Nat.le_of_ble_eq_true rfl) rfl ?_
              rintro G3 ⟨k3, k4, hF⟩
              refine x_iinc (pc := 118) dX12_layPut_118 rfl (by decide) rfl ?_
              refine x_goto (tgt := 12) (pc := 121) dX12_layPut_121 (by decide) ?_
              first
              | (rw [(q0 (by omega)).1, (q0 (by omega)).2, if_pos (by omega), if_neg (by omega), Int.toNat_natCast, List.append_cons _ P] at ihx; exact ihx _ _ _ k3 (hQ.tr k4) hF)
              | (rw [(q0 (by omega)).1, (q0 (by omega)).2, if_neg (by omega)] at ihx; exact ihx _ _ _ k3 (hQ.tr k4) hF)
            · skip
              refine x_aloadn (pc := 90) dX12_layPut_90 rfl ?_
              refine x_getI (pc := 91) dX12_layPut_91 fl_X12_237 k_127 (hL 127 (by decide) (by decide)) ?_
              rw [hpa]
              refine x_iconst (pc := 94) dX12_layPut_94 ?_
              refine x_ceq (tgt := 118) (pc := 95) dX12_layPut_95 (by decide) (by omega) (fun c_95 => ?_) (fun c_95 => ?_)
              · skip
                exact absurd c_95 (by omega)
              refine x_aloadn (pc := 98) dX12_layPut_98 rfl ?_
              refine x_iloadn (pc := 99) dX12_layPut_99 rfl ?_
              refine x_iloadn (pc := 100) dX12_layPut_100 rfl ?_
              refine x_aloadn (pc := 101) dX12_layPut_101 rfl ?_
              refine x_getR (149) (pc := 102) dX12_layPut_102 fl_X12_74 k_127 (hL 127 (by decide) (by decide)) (f_127_27 hF) ?_
              refine x_iloadn (pc := 105) dX12_layPut_105 rfl ?_
              refine x_iald (k) (pc := 106) dX12_layPut_106 k_149 (hL 149 (by decide) (by decide)) (⟨by omega, by omega, by decide⟩) ?_
              rw [hmf]
              refine x_cge (tgt := 114) (pc := 107) dX12_layPut_107 (by decide) (by omega) (fun c_107 => ?_) (fun c_107 => ?_)
              rotate_left
              · skip
                exact absurd c_107 (by omega)
              refine x_iconst (pc := 114) dX12_layPut_114 ?_
              refine x_cVV (pc := 115) dX12_layPut_115 lk_X12_243 (c_mo_add0 hL hF hab (by omega)) k_127 ⟨by decide, rfl⟩ (hL 127 (by decide) (by decide)) (⟨by decide, by decide⟩) (Nat.le_of_ble_eq_true rfl) rfl ?_
              rintro G3 ⟨k3, k4, hF⟩
              refine x_iinc (pc := 118) dX12_layPut_118 rfl (by decide) rfl ?_
              refine x_goto (tgt := 12) (pc := 121) dX12_layPut_121 (by decide) ?_
              first
              | (rw [(q0 (by omega)).1, (q0 (by omega)).2, if_pos (by omega), if_neg (by omega), Int.toNat_natCast, List.append_cons _ P] at ihx; exact ihx _ _ _ k3 (hQ.tr k4) hF)
              | (rw [(q0 (by omega)).1, (q0 (by omega)).2, if_neg (by omega)] at ihx; exact ihx _ _ _ k3 (hQ.tr k4) hF)
theorem c_mo_layPut {u : Nat} {p : Int} {G : Nat → Nat → Int} (hL : x_SL L) (hF : x_Fin xFL G) (h : mGn ns G) (hk : ns[k]? = some s) (hk15 : k < 1500) (hv : zvS s) (hu : 4 ≤ u ∧ u < 8) (hp : p = -1 ∨ ∃ P : Nat, p = P ∧ P < 8 ∧ P ≠ 3) (hn : G 127 39 = ((u : Nat) : Int)) (ha : G 127 40 = p) :
    CM yX12_layPut mX12_layPut 1 0 0 [vR 127, vI k] L G (pLp L G s u p) := by
  have q : FM z_msS z_msF G (x_up (x_up G 127 37 0) 127 38 0) := (FM.rf.upF (by decide)).upF (by decide)
  refine Ct.of_X (μ := mX12_layPut) rfl rfl (by decide) (fun h => by cases h) (Nat.le_of_ble_eq_true rfl) rfl ?_
  refine x_aloadn (pc := 0) dX12_layPut_0 rfl ?_
  refine x_iconst (pc := 1) dX12_layPut_1 ?_
  refine x_putIF (pc := 2) dX12_layPut_2 fp_X12_224 k_127 (hL 127 (by decide) (by decide)) hF (fun hF => ?_)
  refine x_aloadn (pc := 5) dX12_layPut_5 rfl ?_
  refine x_iconst (pc := 6) dX12_layPut_6 ?_
  refine x_putIF (pc := 7) dX12_layPut_7 fp_X12_227 k_127 (hL 127 (by decide) (by decide)) hF (fun hF => ?_)
  refine x_iconst (pc := 10) dX12_layPut_10 ?_
  refine x_istoren (pc := 11) dX12_layPut_11 rfl (by decide) rfl ?_
  refine X.imp (fun v L' G' w => ?_) (l_mo_lyp hL (h.FM q (by decide) (by decide) (by decide)) hk hk15 hv hu hp (by rw [q _ _ (by decide) (fun _ => by decide)]; exact hn) (by rw [q _ _ (by decide) (fun _ => by decide)]; exact ha) (s.1.length + s.2.length) 0 _ _ _ (Nat.zero_add _) (by rw [Nat.zero_sub, List.take_zero, List.take_zero]; exact ⟨by rw [x_up_k (by decide), x_up_s]; rfl, by rw [x_up_s]; rfl, fun i hi => absurd hi (Nat.not_lt_zero i), fun i hi => absurd hi (Nat.not_lt_zero i)⟩) FM.rf hF)
  obtain ⟨w1, w2, w3, w4, w5⟩ := w
  exact ⟨w1, w2, w3, q.tr w4, w5⟩
end XHP


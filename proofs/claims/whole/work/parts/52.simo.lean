-- ----- every code, by rows of sixteen
theorem simG0 {q : SQ} {k : SC} (hI : Inv q) (hg : q_gave q = 0) (D : Dec k q) (h1 : (q_code q).toInt < 64) : Sim (wX6_first q) (wX3_operationCodes (pO q (-1) k)) q k (fGS (q_code q)) := by
  rcases D with ⟨hn, ⟨h0, _, hpre⟩, ⟨hs, hgs, hb, hrep⟩, hM, ⟨iS, i131, iB, iW, iT⟩, dX⟩
  refine (simFirst hI hg hn h0 h1 (fun c => (hM (by unfold hasMp; omega)).1) (fun c => ?_) (fun c => ?_)).gv ?_
  · rcases c with c | c
    · exact ⟨(iB (by unfold iByte; omega)).1, rB_O (iB (by unfold iByte; omega)).2⟩
    · exact ⟨(iW (by unfold iWord; omega)).1, rO_word (iW (by unfold iWord; omega)).2 (by omega)⟩
  · have := hpre.1; omega
  · unfold fGS
    by_cases c : (q_code q).toInt % 8 = 7 ∧ (q_code q).toInt < 32
    · rw [if_pos c, if_pos (Or.inl c)]
    · rw [if_neg c, if_neg (fun z => z.elim c (fun z => by omega))]
theorem simG8 {q : SQ} {k : SC} (hI : Inv q) (hg : q_gave q = 0) (D : Dec k q) (h0 : 128 ≤ (q_code q).toInt) (h1 : (q_code q).toInt < 144) : Sim (wX6_moves q) (wX3_operandCodes (pO q (-1) k)) q k (fGS (q_code q)) := by
  rcases D with ⟨hn, ⟨_, _, hpre⟩, ⟨hs, hgs, hb, hrep⟩, hM, ⟨iS, i131, iB, iW, iT⟩, dX⟩
  have gv0 : ∀ g : Int32, (g = 0 ∧ ¬ (((q_code q).toInt % 8 = 7 ∧ (q_code q).toInt < 32) ∨ (q_code q).toInt = 142)) ∨ (g = 1 ∧ (((q_code q).toInt % 8 = 7 ∧ (q_code q).toInt < 32) ∨ (q_code q).toInt = 142)) → g = fGS (q_code q) := by
    rintro g (⟨rfl, z⟩ | ⟨rfl, z⟩)
    · rw [fGS, if_neg z]
    · rw [fGS, if_pos z]
  by_cases c128 : (q_code q).toInt = 128
  · exact (simMv128 hI hg hn (hM (by unfold hasMp; omega)).1 ⟨(iB (by unfold iByte; omega)).1, rB_O (iB (by unfold iByte; omega)).2⟩ (ti_ext c128)).gv (gv0 _ (Or.inl ⟨rfl, by omega⟩))
  by_cases c129 : (q_code q).toInt = 129
  · exact (simMv129 hI hg hn (hM (by unfold hasMp; omega)).1 ⟨(iW (by unfold iWord; omega)).1, rO_word (iW (by unfold iWord; omega)).2 (by omega)⟩ (ti_ext c129)).gv (gv0 _ (Or.inl ⟨rfl, by omega⟩))
  by_cases c130 : (q_code q).toInt = 130
  · exact (simMv130 hI hg hn (hM (by unfold hasMp; omega)).1 ⟨(iB (by unfold iByte; omega)).1, rB_O (iB (by unfold iByte; omega)).2⟩ (ti_ext c130)).gv (gv0 _ (Or.inl ⟨rfl, by omega⟩))
  by_cases c131 : (q_code q).toInt = 131
  · exact (simMv131 hI hg hn (hM (by unfold hasMp; omega)).1 (i131 c131) (ti_ext c131)).gv (gv0 _ (Or.inl ⟨rfl, by omega⟩))
  by_cases c132 : (q_code q).toInt = 132
  · exact (simMv132 hI hg hn (hM (by unfold hasMp; omega)).1 (ti_ext c132)).gv (gv0 _ (Or.inl ⟨rfl, by omega⟩))
  by_cases c133 : (q_code q).toInt = 133
  · exact (simMv133 hI hg hn (hM (by unfold hasMp; omega)).1 (ti_ext c133)).gv (gv0 _ (Or.inl ⟨rfl, by omega⟩))
  by_cases c134 : (q_code q).toInt = 134
  · exact (simMv134 hI hg hn (hM (by unfold hasMp; omega)).1 (ti_ext c134)).gv (gv0 _ (Or.inl ⟨rfl, by omega⟩))
  by_cases c135 : (q_code q).toInt = 135
  · exact (simMv135 hI hg hn (hM (by unfold hasMp; omega)).1 (ti_ext c135)).gv (gv0 _ (Or.inl ⟨rfl, by omega⟩))
  by_cases c136 : (q_code q).toInt = 136
  · exact (simMv136 hI hg hn (hM (by unfold hasMp; omega)).1 (ti_ext c136)).gv (gv0 _ (Or.inl ⟨rfl, by omega⟩))
  by_cases c137 : (q_code q).toInt = 137
  · exact (simMv137 hI hg hn (hM (by unfold hasMp; omega)).1 (ti_ext c137)).gv (gv0 _ (Or.inl ⟨rfl, by omega⟩))
  by_cases c138 : (q_code q).toInt = 138
  · exact (simMv138 hI hg hn (hM (by unfold hasMp; omega)).1 (ti_ext c138)).gv (gv0 _ (Or.inl ⟨rfl, by omega⟩))
  by_cases c139 : (q_code q).toInt = 139
  · exact (simMv139 hI hg hn (hM (by unfold hasMp; omega)).1 (ti_ext c139)).gv (gv0 _ (Or.inl ⟨rfl, by omega⟩))
  by_cases c140 : (q_code q).toInt = 140
  · exact (simMv140 hI hg hn (hM (by unfold hasMp; omega)).1 (ti_ext c140)).gv (gv0 _ (Or.inl ⟨rfl, by omega⟩))
  by_cases c141 : (q_code q).toInt = 141
  · exact (simMv141 hI hg hn (hM (by unfold hasMp; omega)).1 ⟨((hM (by unfold hasMp; omega)).1.2.2.2.1 (dX.1 (by omega))).2, (hM (by unfold hasMp; omega)).2 (dX.1 (by omega))⟩ (ti_ext c141)).gv (gv0 _ (Or.inl ⟨rfl, by omega⟩))
  by_cases c142 : (q_code q).toInt = 142
  · exact (simMv142 hI hg hn (hM (by unfold hasMp; omega)).1 (ti_ext c142)).gv (gv0 _ (Or.inr ⟨rfl, by omega⟩))
  exact (simMv143 hI hg hn (hM (by unfold hasMp; omega)).1 (ti_ext (by have : (143 : Int32).toInt = 143 := rfl; omega))).gv (gv0 _ (Or.inl ⟨rfl, by omega⟩))
theorem simG9 {q : SQ} {k : SC} (hI : Inv q) (hg : q_gave q = 0) (D : Dec k q) (h0 : 144 ≤ (q_code q).toInt) (h1 : (q_code q).toInt < 160) : Sim (wX6_others q) (wX3_exchangeAndFlagCodes (pO q (-1) k)) q k (fGS (q_code q)) := by
  rcases D with ⟨hn, ⟨_, _, hpre⟩, ⟨hs, hgs, hb, hrep⟩, hM, ⟨iS, i131, iB, iW, iT⟩, dX⟩
  have gv0 : ∀ g : Int32, (g = 0 ∧ ¬ (((q_code q).toInt % 8 = 7 ∧ (q_code q).toInt < 32) ∨ (q_code q).toInt = 142)) ∨ (g = 1 ∧ (((q_code q).toInt % 8 = 7 ∧ (q_code q).toInt < 32) ∨ (q_code q).toInt = 142)) → g = fGS (q_code q) := by
    rintro g (⟨rfl, z⟩ | ⟨rfl, z⟩)
    · rw [fGS, if_neg z]
    · rw [fGS, if_pos z]
  by_cases c152 : (q_code q).toInt = 152
  · exact (simOt152 hI hg hn  (ti_ext c152)).gv (gv0 _ (Or.inl ⟨rfl, by omega⟩))
  by_cases c153 : (q_code q).toInt = 153
  · exact (simOt153 hI hg hn  (ti_ext c153)).gv (gv0 _ (Or.inl ⟨rfl, by omega⟩))
  by_cases c154 : (q_code q).toInt = 154
  · exact (simOt154 hI hg hn (iT (by unfold iTwo; omega)).1 (iT (by unfold iTwo; omega)).2 (ti_ext c154)).gv (gv0 _ (Or.inl ⟨rfl, by omega⟩))
  by_cases c155 : (q_code q).toInt = 155
  · exact (simOt155 hI hg hn  (ti_ext c155)).gv (gv0 _ (Or.inl ⟨rfl, by omega⟩))
  by_cases c156 : (q_code q).toInt = 156
  · exact (simOt156 hI hg hn  (ti_ext c156)).gv (gv0 _ (Or.inl ⟨rfl, by omega⟩))
  by_cases c157 : (q_code q).toInt = 157
  · exact (simOt157 hI hg hn  (ti_ext c157)).gv (gv0 _ (Or.inl ⟨rfl, by omega⟩))
  by_cases c158 : (q_code q).toInt = 158
  · exact (simOt158 hI hg hn  (ti_ext c158)).gv (gv0 _ (Or.inl ⟨rfl, by omega⟩))
  by_cases c159 : (q_code q).toInt = 159
  · exact (simOt159 hI hg hn  (ti_ext c159)).gv (gv0 _ (Or.inl ⟨rfl, by omega⟩))
  exact (simOtX hI hg hn (fun z => c152 (by rw [z]; rfl)) (fun z => c153 (by rw [z]; rfl)) (fun z => c154 (by rw [z]; rfl)) (fun z => c155 (by rw [z]; rfl)) (fun z => c156 (by rw [z]; rfl)) (fun z => c157 (by rw [z]; rfl)) (fun z => c158 (by rw [z]; rfl)) (fun z => c159 (by rw [z]; rfl))).gv (gv0 _ (Or.inl ⟨rfl, by omega⟩))
theorem simG12 {q : SQ} {k : SC} (hI : Inv q) (hg : q_gave q = 0) (D : Dec k q) (h0 : 192 ≤ (q_code q).toInt) (h1 : (q_code q).toInt < 208) : Sim (wX6_returnsAndMore q) (wX3_returnCodes (pO q (-1) k)) q k (fGS (q_code q)) := by
  rcases D with ⟨hn, ⟨_, _, hpre⟩, ⟨hs, hgs, hb, hrep⟩, hM, ⟨iS, i131, iB, iW, iT⟩, dX⟩
  have gv0 : ∀ g : Int32, (g = 0 ∧ ¬ (((q_code q).toInt % 8 = 7 ∧ (q_code q).toInt < 32) ∨ (q_code q).toInt = 142)) ∨ (g = 1 ∧ (((q_code q).toInt % 8 = 7 ∧ (q_code q).toInt < 32) ∨ (q_code q).toInt = 142)) → g = fGS (q_code q) := by
    rintro g (⟨rfl, z⟩ | ⟨rfl, z⟩)
    · rw [fGS, if_neg z]
    · rw [fGS, if_pos z]
  by_cases c192 : (q_code q).toInt = 192
  · exact (simRt192 hI hg hn (iW (by unfold iWord; omega)) (ti_ext c192)).gv (gv0 _ (Or.inl ⟨rfl, by omega⟩))
  by_cases c193 : (q_code q).toInt = 193
  · exact (simRt193 hI hg hn  (ti_ext c193)).gv (gv0 _ (Or.inl ⟨rfl, by omega⟩))
  by_cases c194 : (q_code q).toInt = 194
  · exact (simRt194 hI hg hn (iW (by unfold iWord; omega)) (ti_ext c194)).gv (gv0 _ (Or.inl ⟨rfl, by omega⟩))
  by_cases c195 : (q_code q).toInt = 195
  · exact (simRt195 hI hg hn  (ti_ext c195)).gv (gv0 _ (Or.inl ⟨rfl, by omega⟩))
  by_cases c196 : (q_code q).toInt = 196
  · exact (simRt196 hI hg hn (hM (by unfold hasMp; omega)).1 (dX.1 (by omega)) (ti_ext c196)).gv (gv0 _ (Or.inl ⟨rfl, by omega⟩))
  by_cases c197 : (q_code q).toInt = 197
  · exact (simRt197 hI hg hn (hM (by unfold hasMp; omega)).1 (dX.1 (by omega)) (ti_ext c197)).gv (gv0 _ (Or.inl ⟨rfl, by omega⟩))
  by_cases c198 : (q_code q).toInt = 198
  · exact (simRt198 hI hg hn (hM (by unfold hasMp; omega)).1 (iB (by unfold iByte; omega)).1 (ti_ext c198)).gv (gv0 _ (Or.inl ⟨rfl, by omega⟩))
  by_cases c199 : (q_code q).toInt = 199
  · exact (simRt199 hI hg hn (hM (by unfold hasMp; omega)).1 (iW (by unfold iWord; omega)).1 (ti_ext c199)).gv (gv0 _ (Or.inl ⟨rfl, by omega⟩))
  by_cases c200 : (q_code q).toInt = 200
  · exact (simRt200 hI hg hn (iW (by unfold iWord; omega)) (ti_ext c200)).gv (gv0 _ (Or.inl ⟨rfl, by omega⟩))
  by_cases c201 : (q_code q).toInt = 201
  · exact (simRt201 hI hg hn  (ti_ext c201)).gv (gv0 _ (Or.inl ⟨rfl, by omega⟩))
  by_cases c202 : (q_code q).toInt = 202
  · exact (simRt202 hI hg hn (iW (by unfold iWord; omega)) (ti_ext c202)).gv (gv0 _ (Or.inl ⟨rfl, by omega⟩))
  by_cases c203 : (q_code q).toInt = 203
  · exact (simRt203 hI hg hn  (ti_ext c203)).gv (gv0 _ (Or.inl ⟨rfl, by omega⟩))
  by_cases c204 : (q_code q).toInt = 204
  · exact (simRt204 hI hg hn  (ti_ext c204)).gv (gv0 _ (Or.inl ⟨rfl, by omega⟩))
  by_cases c205 : (q_code q).toInt = 205
  · exact (simRt205 hI hg hn (iB (by unfold iByte; omega)) (ti_ext c205)).gv (gv0 _ (Or.inl ⟨rfl, by omega⟩))
  by_cases c206 : (q_code q).toInt = 206
  · exact (simRt206 hI hg hn  (ti_ext c206)).gv (gv0 _ (Or.inl ⟨rfl, by omega⟩))
  exact (simRt207 hI hg hn (ti_ext (by have : (207 : Int32).toInt = 207 := rfl; omega))).gv (gv0 _ (Or.inl ⟨rfl, by omega⟩))
theorem simG13 {q : SQ} {k : SC} (hI : Inv q) (hg : q_gave q = 0) (D : Dec k q) (h0 : 208 ≤ (q_code q).toInt) (h1 : (q_code q).toInt < 224) : Sim (wX6_shiftsAndMore q) (wX3_shiftAndAdjustCodes (pO q (-1) k)) q k (fGS (q_code q)) := by
  rcases D with ⟨hn, ⟨_, _, hpre⟩, ⟨hs, hgs, hb, hrep⟩, hM, ⟨iS, i131, iB, iW, iT⟩, dX⟩
  have gv0 : ∀ g : Int32, (g = 0 ∧ ¬ (((q_code q).toInt % 8 = 7 ∧ (q_code q).toInt < 32) ∨ (q_code q).toInt = 142)) ∨ (g = 1 ∧ (((q_code q).toInt % 8 = 7 ∧ (q_code q).toInt < 32) ∨ (q_code q).toInt = 142)) → g = fGS (q_code q) := by
    rintro g (⟨rfl, z⟩ | ⟨rfl, z⟩)
    · rw [fGS, if_neg z]
    · rw [fGS, if_pos z]
  by_cases c208 : (q_code q).toInt = 208
  · exact (simSh208 hI hg hn (hM (by unfold hasMp; omega)).1 (ti_ext c208)).gv (gv0 _ (Or.inl ⟨rfl, by omega⟩))
  by_cases c209 : (q_code q).toInt = 209
  · exact (simSh209 hI hg hn (hM (by unfold hasMp; omega)).1 (ti_ext c209)).gv (gv0 _ (Or.inl ⟨rfl, by omega⟩))
  by_cases c210 : (q_code q).toInt = 210
  · exact (simSh210 hI hg hn (hM (by unfold hasMp; omega)).1 (ti_ext c210)).gv (gv0 _ (Or.inl ⟨rfl, by omega⟩))
  by_cases c211 : (q_code q).toInt = 211
  · exact (simSh211 hI hg hn (hM (by unfold hasMp; omega)).1 (ti_ext c211)).gv (gv0 _ (Or.inl ⟨rfl, by omega⟩))
  by_cases c212 : (q_code q).toInt = 212
  · exact (simSh212 hI hg hn (iB (by unfold iByte; omega)) (ti_ext c212)).gv (gv0 _ (Or.inl ⟨rfl, by omega⟩))
  by_cases c213 : (q_code q).toInt = 213
  · exact (simSh213 hI hg hn (iB (by unfold iByte; omega)) (ti_ext c213)).gv (gv0 _ (Or.inl ⟨rfl, by omega⟩))
  by_cases c214 : (q_code q).toInt = 214
  · exact (simSh214 hI hg hn  (ti_ext c214)).gv (gv0 _ (Or.inl ⟨rfl, by omega⟩))
  by_cases c215 : (q_code q).toInt = 215
  · exact (simSh215 hI hg hn hs hgs (ti_ext c215)).gv (gv0 _ (Or.inl ⟨rfl, by omega⟩))
  exact (simShX hI hg hn (by omega) (fun z => c208 (by rw [z]; rfl)) (fun z => c209 (by rw [z]; rfl)) (fun z => c210 (by rw [z]; rfl)) (fun z => c211 (by rw [z]; rfl)) (fun z => c212 (by rw [z]; rfl)) (fun z => c213 (by rw [z]; rfl)) (fun z => c214 (by rw [z]; rfl)) (fun z => c215 (by rw [z]; rfl))).gv (gv0 _ (Or.inl ⟨rfl, by omega⟩))
theorem simG14 {q : SQ} {k : SC} (hI : Inv q) (hg : q_gave q = 0) (D : Dec k q) (h0 : 224 ≤ (q_code q).toInt) (h1 : (q_code q).toInt < 240) : Sim (wX6_loopsAndPorts q) (wX3_loopAndPortCodes (pO q (-1) k)) q k (fGS (q_code q)) := by
  rcases D with ⟨hn, ⟨_, _, hpre⟩, ⟨hs, hgs, hb, hrep⟩, hM, ⟨iS, i131, iB, iW, iT⟩, dX⟩
  have gv0 : ∀ g : Int32, (g = 0 ∧ ¬ (((q_code q).toInt % 8 = 7 ∧ (q_code q).toInt < 32) ∨ (q_code q).toInt = 142)) ∨ (g = 1 ∧ (((q_code q).toInt % 8 = 7 ∧ (q_code q).toInt < 32) ∨ (q_code q).toInt = 142)) → g = fGS (q_code q) := by
    rintro g (⟨rfl, z⟩ | ⟨rfl, z⟩)
    · rw [fGS, if_neg z]
    · rw [fGS, if_pos z]
  by_cases c224 : (q_code q).toInt = 224
  · exact (simLp224 hI hg hn (iS (by unfold iShort; omega)) (ti_ext c224)).gv (gv0 _ (Or.inl ⟨rfl, by omega⟩))
  by_cases c225 : (q_code q).toInt = 225
  · exact (simLp225 hI hg hn (iS (by unfold iShort; omega)) (ti_ext c225)).gv (gv0 _ (Or.inl ⟨rfl, by omega⟩))
  by_cases c226 : (q_code q).toInt = 226
  · exact (simLp226 hI hg hn (iS (by unfold iShort; omega)) (ti_ext c226)).gv (gv0 _ (Or.inl ⟨rfl, by omega⟩))
  by_cases c227 : (q_code q).toInt = 227
  · exact (simLp227 hI hg hn (iS (by unfold iShort; omega)) (ti_ext c227)).gv (gv0 _ (Or.inl ⟨rfl, by omega⟩))
  by_cases c228 : (q_code q).toInt = 228
  · exact (simLp228 hI hg hn (iB (by unfold iByte; omega)).1 (ti_ext c228)).gv (gv0 _ (Or.inl ⟨rfl, by omega⟩))
  by_cases c229 : (q_code q).toInt = 229
  · exact (simLp229 hI hg hn (iB (by unfold iByte; omega)).1 (ti_ext c229)).gv (gv0 _ (Or.inl ⟨rfl, by omega⟩))
  by_cases c230 : (q_code q).toInt = 230
  · exact (simLp230 hI hg hn (iB (by unfold iByte; omega)).1 (ti_ext c230)).gv (gv0 _ (Or.inl ⟨rfl, by omega⟩))
  by_cases c231 : (q_code q).toInt = 231
  · exact (simLp231 hI hg hn (iB (by unfold iByte; omega)).1 (ti_ext c231)).gv (gv0 _ (Or.inl ⟨rfl, by omega⟩))
  by_cases c232 : (q_code q).toInt = 232
  · exact (simLp232 hI hg hn (iW (by unfold iWord; omega)).1 (ti_ext c232)).gv (gv0 _ (Or.inl ⟨rfl, by omega⟩))
  by_cases c233 : (q_code q).toInt = 233
  · exact (simLp233 hI hg hn (iW (by unfold iWord; omega)).1 (ti_ext c233)).gv (gv0 _ (Or.inl ⟨rfl, by omega⟩))
  by_cases c234 : (q_code q).toInt = 234
  · exact (simLp234 hI hg hn (iT (by unfold iTwo; omega)).1.1 (iT (by unfold iTwo; omega)).2.1 (iT (by unfold iTwo; omega)).1.2 (iT (by unfold iTwo; omega)).2.2 (ti_ext c234)).gv (gv0 _ (Or.inl ⟨rfl, by omega⟩))
  by_cases c235 : (q_code q).toInt = 235
  · exact (simLp235 hI hg hn (iS (by unfold iShort; omega)) (ti_ext c235)).gv (gv0 _ (Or.inl ⟨rfl, by omega⟩))
  by_cases c236 : (q_code q).toInt = 236
  · exact (simLp236 hI hg hn  (ti_ext c236)).gv (gv0 _ (Or.inl ⟨rfl, by omega⟩))
  by_cases c237 : (q_code q).toInt = 237
  · exact (simLp237 hI hg hn  (ti_ext c237)).gv (gv0 _ (Or.inl ⟨rfl, by omega⟩))
  by_cases c238 : (q_code q).toInt = 238
  · exact (simLp238 hI hg hn  (ti_ext c238)).gv (gv0 _ (Or.inl ⟨rfl, by omega⟩))
  exact (simLp239 hI hg hn (ti_ext (by have : (239 : Int32).toInt = 239 := rfl; omega))).gv (gv0 _ (Or.inl ⟨rfl, by omega⟩))
theorem simG15 {q : SQ} {k : SC} (hI : Inv q) (hg : q_gave q = 0) (D : Dec k q) (h0 : 240 ≤ (q_code q).toInt) (h1 : (q_code q).toInt < 256) : Sim (wX6_flagsAndMore q) (wX3_lastCodes (pO q (-1) k)) q k (fGS (q_code q)) := by
  rcases D with ⟨hn, ⟨_, _, hpre⟩, ⟨hs, hgs, hb, hrep⟩, hM, ⟨iS, i131, iB, iW, iT⟩, dX⟩
  have gv0 : ∀ g : Int32, (g = 0 ∧ ¬ (((q_code q).toInt % 8 = 7 ∧ (q_code q).toInt < 32) ∨ (q_code q).toInt = 142)) ∨ (g = 1 ∧ (((q_code q).toInt % 8 = 7 ∧ (q_code q).toInt < 32) ∨ (q_code q).toInt = 142)) → g = fGS (q_code q) := by
    rintro g (⟨rfl, z⟩ | ⟨rfl, z⟩)
    · rw [fGS, if_neg z]
    · rw [fGS, if_pos z]
  by_cases c244 : (q_code q).toInt = 244
  · exact (simLa244 hI hg hn  (ti_ext c244)).gv (gv0 _ (Or.inl ⟨rfl, by omega⟩))
  by_cases c245 : (q_code q).toInt = 245
  · exact (simLa245 hI hg hn  (ti_ext c245)).gv (gv0 _ (Or.inl ⟨rfl, by omega⟩))
  by_cases c248 : (q_code q).toInt = 248
  · exact (simLa248 hI hg hn  (ti_ext c248)).gv (gv0 _ (Or.inl ⟨rfl, by omega⟩))
  by_cases c249 : (q_code q).toInt = 249
  · exact (simLa249 hI hg hn  (ti_ext c249)).gv (gv0 _ (Or.inl ⟨rfl, by omega⟩))
  by_cases c250 : (q_code q).toInt = 250
  · exact (simLa250 hI hg hn  (ti_ext c250)).gv (gv0 _ (Or.inl ⟨rfl, by omega⟩))
  by_cases c251 : (q_code q).toInt = 251
  · exact (simLa251 hI hg hn  (ti_ext c251)).gv (gv0 _ (Or.inl ⟨rfl, by omega⟩))
  by_cases c252 : (q_code q).toInt = 252
  · exact (simLa252 hI hg hn  (ti_ext c252)).gv (gv0 _ (Or.inl ⟨rfl, by omega⟩))
  by_cases c253 : (q_code q).toInt = 253
  · exact (simLa253 hI hg hn  (ti_ext c253)).gv (gv0 _ (Or.inl ⟨rfl, by omega⟩))
  by_cases c6 : (q_code q).toInt = 246 ∨ (q_code q).toInt = 247
  · refine (simF6 hI hg hn (hM (by unfold hasMp; omega)).1 c6 (fun hr => ?_)).gv (gv0 _ (Or.inl ⟨rfl, by omega⟩))
    rcases c6 with c | c
    · exact ⟨(iB (by unfold iByte; omega)).1, rB_O (iB (by unfold iByte; omega)).2⟩
    · exact ⟨(iW (by unfold iWord; omega)).1, rO_word (iW (by unfold iWord; omega)).2 (by omega)⟩
  have cE : (q_code q).toInt = 254 ∨ (q_code q).toInt = 255 := by have := hpre.2; omega
  exact (simFE hI hg hn (hM (by unfold hasMp; omega)).1 cE dX.2.1 dX.2.2).gv (gv0 _ (Or.inl ⟨rfl, by omega⟩))
theorem iX6_isStringY {q : SQ} {P : Int32 → SQ → Prop} (hS : ((164 ≤ (q_code q).toInt ∧ (q_code q).toInt < 168) ∨ (170 ≤ (q_code q).toInt ∧ (q_code q).toInt < 176))) (h : P 1 q) : wX6_isString q P := by
  have e1 : (164 : Int32).toInt = 164 := rfl
  have e2 : (168 : Int32).toInt = 168 := rfl
  have e3 : (170 : Int32).toInt = 170 := rfl
  have e4 : (176 : Int32).toInt = 176 := rfl
  have b : ¬ q_code q < 168 → wX6_isString_b20 P q := fun z => sk (fun y => by have := ti_lt.mp y; exact z (ti_lt.mpr (by omega))) (sk (fun y => by have := ti_le.mp y; omega) h)
  exact ⟨fun z => by have := ti_lt.mp z; omega, fun _ => ⟨fun _ => h, b⟩⟩
theorem iX6_isStringN {q : SQ} {P : Int32 → SQ → Prop} (hS : 168 ≤ (q_code q).toInt ∧ (q_code q).toInt < 170) (h : P 0 q) : wX6_isString q P := by
  have e1 : (164 : Int32).toInt = 164 := rfl
  have e2 : (168 : Int32).toInt = 168 := rfl
  have e3 : (170 : Int32).toInt = 170 := rfl
  exact ⟨fun z => by have := ti_lt.mp z; omega, fun _ => ⟨fun z => by have := ti_lt.mp z; omega, fun _ => tk (ti_lt.mpr (by omega)) h⟩⟩
theorem iX1_isStringY {k : SC} {P : Int32 → SC → Prop} (hS : ((164 ≤ (c_number k).toInt ∧ (c_number k).toInt < 168) ∨ (170 ≤ (c_number k).toInt ∧ (c_number k).toInt < 176))) (h : P 1 k) : wX1_isString k P := by
  have e1 : (164 : Int32).toInt = 164 := rfl
  have e2 : (175 : Int32).toInt = 175 := rfl
  exact sk (fun z => by have := ti_lt.mp z; omega) (sk (fun z => by have := ti_lt.mp z; omega) (sk (fun z => by have := congrArg Int32.toInt z; have : (168 : Int32).toInt = 168 := rfl; omega) (sk (fun z => by have := congrArg Int32.toInt z; have : (169 : Int32).toInt = 169 := rfl; omega) h)))
theorem iX1_isStringN {k : SC} {P : Int32 → SC → Prop} (hS : (c_number k).toInt < 164 ∨ (c_number k).toInt = 168 ∨ (c_number k).toInt = 169) (h : P 0 k) : wX1_isString k P := by
  have e1 : (164 : Int32).toInt = 164 := rfl
  have e2 : (175 : Int32).toInt = 175 := rfl
  refine ⟨fun _ => h, fun z => ⟨fun _ => h, fun _ => ⟨fun _ => h, fun c => ⟨fun _ => h, fun c2 => ?_⟩⟩⟩⟩
  rcases hS with y | y | y
  · exact absurd (ti_lt.mpr (by omega)) z
  · exact absurd (ti_ext y) c
  · exact absurd (ti_ext y) c2

theorem simG10 {q : SQ} {k : SC} (hI : Inv q) (hg : q_gave q = 0) (D : Dec k q) (h0 : 160 ≤ (q_code q).toInt) (h1 : (q_code q).toInt < 176) : Sim (wX6_memory q) (fun P => wX1_isString (p_code (pO q (-1) k)) (fun r21 u20 => ((r21 = (0 : Int32) → (wX3_placeCodes  (ps_code (pO q (-1) k) u20) P)) ∧ (¬ r21 = (0 : Int32) → (wX3_strings  (ps_code (pO q (-1) k) u20) P))))) q k (fGS (q_code q)) := by
  rcases D with ⟨hn, ⟨_, _, hpre⟩, ⟨hs, hgs, hb, hrep⟩, hM, ⟨iS, i131, iB, iW, iT⟩, dX⟩
  have gv0 : ∀ g : Int32, (g = 0 ∧ ¬ (((q_code q).toInt % 8 = 7 ∧ (q_code q).toInt < 32) ∨ (q_code q).toInt = 142)) ∨ (g = 1 ∧ (((q_code q).toInt % 8 = 7 ∧ (q_code q).toInt < 32) ∨ (q_code q).toInt = 142)) → g = fGS (q_code q) := by
    rintro g (⟨rfl, z⟩ | ⟨rfl, z⟩)
    · rw [fGS, if_neg z]
    · rw [fGS, if_pos z]
  have e2 : (176 : Int32).toInt = 176 := rfl
  have e3 : (162 : Int32).toInt = 162 := rfl
  have e4 : (164 : Int32).toInt = 164 := rfl
  have hnt : (c_number (p_code (pO q (-1) k))).toInt = (q_code q).toInt := congrArg Int32.toInt hn
  by_cases cS : (164 ≤ (q_code q).toInt ∧ (q_code q).toInt < 168) ∨ (170 ≤ (q_code q).toInt ∧ (q_code q).toInt < 176)
  · have hS : isStr (q_code q) := by
      have t : (q_code q).toInt = 164 ∨ (q_code q).toInt = 165 ∨ (q_code q).toInt = 166 ∨ (q_code q).toInt = 167 ∨ (q_code q).toInt = 170 ∨ (q_code q).toInt = 171 ∨ (q_code q).toInt = 172 ∨ (q_code q).toInt = 173 ∨ (q_code q).toInt = 174 ∨ (q_code q).toInt = 175 := by omega
      unfold isStr
      rcases t with t | t | t | t | t | t | t | t | t | t
      · exact Or.inl (ti_ext t)
      · exact Or.inr (Or.inl (ti_ext t))
      · exact Or.inr (Or.inr (Or.inl (ti_ext t)))
      · exact Or.inr (Or.inr (Or.inr (Or.inl (ti_ext t))))
      · exact Or.inr (Or.inr (Or.inr (Or.inr (Or.inl (ti_ext t)))))
      · exact Or.inr (Or.inr (Or.inr (Or.inr (Or.inr (Or.inl (ti_ext t))))))
      · exact Or.inr (Or.inr (Or.inr (Or.inr (Or.inr (Or.inr (Or.inl (ti_ext t)))))))
      · exact Or.inr (Or.inr (Or.inr (Or.inr (Or.inr (Or.inr (Or.inr (Or.inl (ti_ext t))))))))
      · exact Or.inr (Or.inr (Or.inr (Or.inr (Or.inr (Or.inr (Or.inr (Or.inr (Or.inl (ti_ext t)))))))))
      · exact Or.inr (Or.inr (Or.inr (Or.inr (Or.inr (Or.inr (Or.inr (Or.inr (Or.inr (ti_ext t)))))))))
    refine ((simStrings hI hg hs hgs hn hS hb hrep).mp (fun P h => ?_) (fun P h => ?_)).gv (gv0 _ (Or.inl ⟨rfl, by omega⟩))
    · exact iX6_isWide (by omega) (tk (ti_lt.mpr (by omega)) (tk (ti_le.mpr (by omega)) (tk (ti_le.mpr (by omega)) (iX6_isStringY cS (sk (by decide) h)))))
    · exact iX1_isStringY (by omega) (sk (by decide) h)
  by_cases cR : (q_code q).toInt < 162
  · exact ((simMemR hI hg hn hs hgs (iW (by unfold iWord; omega)) h0 (by omega)).mp (fun P h => h) (fun P h => iX1_isStringN (by omega) (tk rfl h))).gv (gv0 _ (Or.inl ⟨rfl, by omega⟩))
  by_cases cW : (q_code q).toInt < 164
  · exact ((simMemW hI hg hn hs hgs (iW (by unfold iWord; omega)) (by omega) (by omega)).mp (fun P h => h) (fun P h => iX1_isStringN (by omega) (tk rfl h))).gv (gv0 _ (Or.inl ⟨rfl, by omega⟩))
  have cT : (q_code q).toInt = 168 ∨ (q_code q).toInt = 169 := by omega
  refine ((simMemT hI hg hn hs hgs ?_ (by omega) (by omega)).mp (fun P h => h) (fun P h => iX1_isStringN (by omega) (tk rfl h))).gv (gv0 _ (Or.inl ⟨rfl, by omega⟩))
  rcases cT with c | c
  · exact ⟨(iB (by unfold iByte; omega)).1, rB_O (iB (by unfold iByte; omega)).2⟩
  · exact ⟨(iW (by unfold iWord; omega)).1, rO_word (iW (by unfold iWord; omega)).2 (by omega)⟩

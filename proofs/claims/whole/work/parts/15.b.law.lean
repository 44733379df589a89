theorem vpin {k L : Nat} (hk : k < 2 ^ 31) (h : k < L) : vp_in (nI k) L := fun z => by
  rcases z with z | z
  · exact absurd z (Int32.not_lt.mpr (nI_pos' hk))
  · rw [nI_clamp hk] at z; omega
theorem lg_self (x : Int64) : lg_cmp x x = nI 0 := by
  unfold lg_cmp
  rw [if_neg (by rw [gt_iff_lt]; exact Int64.lt_irrefl), if_pos rfl]; rfl
theorem RM.o {h : List aC} {σ : Sg} (H : RM h σ) : ∃ fs, rd h 98 = some (.inr (9, fs)) := by
  obtain ⟨_, _, _, _, _, _, _, _, _, _, _, _, _, _, _, _, _, _, _, _, _, _, _, _, _, _, _, _, _, mO, _⟩ := H
  exact ⟨_, mO⟩
abbrev mLn (nm : String) : YM := (⟨RL, nm, "([I)Z"⟩, code, maxLocals, ret)
def PL : Option Value → List aC → Prop := fun w _ => w = some (.int 1)

theorem ok_count {σ : Sg} (ok : okSg σ) (x : Int32) : okSg (oCount σ x).2 := by
  unfold oCount
  split <;> exact ok

set_option maxRecDepth 100000 in
set_option maxHeartbeats 4000000 in
theorem lw_c0 {nm : String} {L : Nat} {xs : Nat → Int32} {h : List aC} {σ : Sg} (HC : RC h σ) (HM : RM h σ) (ok : okSg σ) {i : Nat} (hi : i + 5 ≤ L) (hL : L ≤ 2560) (K : ∀ h' σ', RC h' σ' → RM h' σ' → okSg σ' → G (mLn nm) room_1 (some (L, xs)) PL 120 7679 18 [(3, .int (nI ((i + 5)))), (0, .retAddr 0), (1, .ref 0), (2, .ref 98)] [] h') : G (mLn nm) room_1 (some (L, xs)) PL 120 7679 32 [(3, .int (nI i)), (0, .retAddr 0), (1, .ref 0), (2, .ref 98)] [.int (nI 0)] h := by
  obtain ⟨fs9, hM⟩ := HM.o
  refine g_tableIn 192 dL_law_32 (by decide +kernel) (by decide +kernel) (off := 160) (by decide +kernel) (by decide) ?_
  refine g_aload_n dL_law_192 2 rfl ?_
  refine g_aload_nS dL_law_193 1 rfl ?_
  refine g_iload_n dL_law_194 0 rfl ?_
  refine g_iconst (v := nI 1) dL_law_195 (by decide +kernel) ?_
  refine g_iaddN dL_law_196 ?_
  refine g_sald rfl dL_law_197 (vpin (by omega) (by omega)) (congrArg xs (cl_ (by omega))) ?_
  refine g_callVq (st1 := [.int ((oLetter σ (xs (i + 1))).1)]) dL_law_198 (ev_x_letter HC ok (xs (i + 1))) oX8_letter wiX8_letter weX8_letter wmL_13 kX8 (HC.1) rfl ⟨(Nat.le_of_ble_eq_true rfl), (Nat.le_of_ble_eq_true rfl)⟩ ⟨(Nat.le_of_ble_eq_true rfl), (Nat.le_of_ble_eq_true rfl)⟩ (Nat.le_of_ble_eq_true rfl) rfl rfl (fun h1 q1 => ?_)
  obtain ⟨HC1, s1⟩ := q1
  have HM1 := HM.mv s1 (by omega)
  obtain ⟨fs8, hM1⟩ := HM1.o
  refine g_aload_n dL_law_201 3 rfl ?_
  refine g_aload_nS dL_law_202 1 rfl ?_
  refine g_iload_n dL_law_203 0 rfl ?_
  refine g_iconst (v := nI 1) dL_law_204 (by decide +kernel) ?_
  refine g_iaddN dL_law_205 ?_
  refine g_sald rfl dL_law_206 (vpin (by omega) (by omega)) (congrArg xs (cl_ (by omega))) ?_
  refine g_callVq (st1 := [.int ((oLetter σ (xs (i + 1))).1), .int ((oLetter σ (xs (i + 1))).1)]) dL_law_207 (ev_y_letter HM1 ok (xs (i + 1))) oX9_letter wiX9_letter weX9_letter wmL_17 kX9 (hM1) rfl ⟨(Nat.le_of_ble_eq_true rfl), (Nat.le_of_ble_eq_true rfl)⟩ ⟨(Nat.le_of_ble_eq_true rfl), (Nat.le_of_ble_eq_true rfl)⟩ (Nat.le_of_ble_eq_true rfl) rfl rfl (fun h2 q2 => ?_)
  obtain ⟨HM2, s2⟩ := q2
  have HC2 := HC1.mv s2 (by omega)
  refine g_icmp_eq 1122 dL_law_210 (by decide) (fun c210 => ?_) (fun z => absurd z (not_not_intro rfl))
  refine g_iinc (q := 0) (v := nI (i + 5)) (ls' := [(3, .int (nI (i + 5))), (0, .retAddr 0), (1, .ref 0), (2, .ref 98)]) dL_law_1122 rfl (incN _ 5) (Nat.le_of_ble_eq_true rfl) rfl ?_
  refine g_goto 18 dL_law_1125 (by decide) ?_
  exact K _ _ HC2 HM2 (ok_letter ok (xs (i + 1)))

set_option maxRecDepth 100000 in
set_option maxHeartbeats 4000000 in
theorem lw_c1 {nm : String} {L : Nat} {xs : Nat → Int32} {h : List aC} {σ : Sg} (HC : RC h σ) (HM : RM h σ) (ok : okSg σ) {i : Nat} (hi : i + 5 ≤ L) (hL : L ≤ 2560) (K : ∀ h' σ', RC h' σ' → RM h' σ' → okSg σ' → G (mLn nm) room_1 (some (L, xs)) PL 120 7679 18 [(3, .int (nI ((i + 5)))), (0, .retAddr 0), (1, .ref 0), (2, .ref 98)] [] h') : G (mLn nm) room_1 (some (L, xs)) PL 120 7679 32 [(3, .int (nI i)), (0, .retAddr 0), (1, .ref 0), (2, .ref 98)] [.int (nI 1)] h := by
  obtain ⟨fs9, hM⟩ := HM.o
  refine g_tableIn 215 dL_law_32 (by decide +kernel) (by decide +kernel) (off := 183) (by decide +kernel) (by decide) ?_
  refine g_aload_n dL_law_215 2 rfl ?_
  refine g_callVq (st1 := [.int ((oText σ).1)]) dL_law_216 (ev_x_text HC ok ) oX8_text wiX8_text weX8_text wmL_18 kX8 (HC.1) rfl ⟨(Nat.le_of_ble_eq_true rfl), (Nat.le_of_ble_eq_true rfl)⟩ ⟨(Nat.le_of_ble_eq_true rfl), (Nat.le_of_ble_eq_true rfl)⟩ (Nat.le_of_ble_eq_true rfl) rfl rfl (fun h1 q1 => ?_)
  obtain ⟨HC1, s1⟩ := q1
  have HM1 := HM.mv s1 (by omega)
  obtain ⟨fs8, hM1⟩ := HM1.o
  refine g_aload_n dL_law_219 3 rfl ?_
  refine g_callVq (st1 := [.int ((oText σ).1), .int ((oText σ).1)]) dL_law_220 (ev_y_text HM1 ok ) oX9_text wiX9_text weX9_text wmL_22 kX9 (hM1) rfl ⟨(Nat.le_of_ble_eq_true rfl), (Nat.le_of_ble_eq_true rfl)⟩ ⟨(Nat.le_of_ble_eq_true rfl), (Nat.le_of_ble_eq_true rfl)⟩ (Nat.le_of_ble_eq_true rfl) rfl rfl (fun h2 q2 => ?_)
  obtain ⟨HM2, s2⟩ := q2
  have HC2 := HC1.mv s2 (by omega)
  refine g_icmp_eq 1122 dL_law_223 (by decide) (fun c223 => ?_) (fun z => absurd z (not_not_intro rfl))
  refine g_iinc (q := 0) (v := nI (i + 5)) (ls' := [(3, .int (nI (i + 5))), (0, .retAddr 0), (1, .ref 0), (2, .ref 98)]) dL_law_1122 rfl (incN _ 5) (Nat.le_of_ble_eq_true rfl) rfl ?_
  refine g_goto 18 dL_law_1125 (by decide) ?_
  exact K _ _ HC2 HM2 (ok_text ok )

set_option maxRecDepth 100000 in
set_option maxHeartbeats 4000000 in
theorem lw_c2 {nm : String} {L : Nat} {xs : Nat → Int32} {h : List aC} {σ : Sg} (HC : RC h σ) (HM : RM h σ) (ok : okSg σ) {i : Nat} (hi : i + 5 ≤ L) (hL : L ≤ 2560) (K : ∀ h' σ', RC h' σ' → RM h' σ' → okSg σ' → G (mLn nm) room_1 (some (L, xs)) PL 120 7679 18 [(3, .int (nI ((i + 5)))), (0, .retAddr 0), (1, .ref 0), (2, .ref 98)] [] h') : G (mLn nm) room_1 (some (L, xs)) PL 120 7679 32 [(3, .int (nI i)), (0, .retAddr 0), (1, .ref 0), (2, .ref 98)] [.int (nI 2)] h := by
  obtain ⟨fs9, hM⟩ := HM.o
  refine g_tableIn 228 dL_law_32 (by decide +kernel) (by decide +kernel) (off := 196) (by decide +kernel) (by decide) ?_
  refine g_aload_n dL_law_228 2 rfl ?_
  refine g_aload_nS dL_law_229 1 rfl ?_
  refine g_iload_n dL_law_230 0 rfl ?_
  refine g_iconst (v := nI 1) dL_law_231 (by decide +kernel) ?_
  refine g_iaddN dL_law_232 ?_
  refine g_sald rfl dL_law_233 (vpin (by omega) (by omega)) (congrArg xs (cl_ (by omega))) ?_
  refine g_callVq (st1 := [.int ((oSize σ (xs (i + 1))).1)]) dL_law_234 (ev_x_size HC ok (xs (i + 1))) oX8_size wiX8_size weX8_size wmL_23 kX8 (HC.1) rfl ⟨(Nat.le_of_ble_eq_true rfl), (Nat.le_of_ble_eq_true rfl)⟩ ⟨(Nat.le_of_ble_eq_true rfl), (Nat.le_of_ble_eq_true rfl)⟩ (Nat.le_of_ble_eq_true rfl) rfl rfl (fun h1 q1 => ?_)
  obtain ⟨HC1, s1⟩ := q1
  have HM1 := HM.mv s1 (by omega)
  obtain ⟨fs8, hM1⟩ := HM1.o
  refine g_aload_n dL_law_237 3 rfl ?_
  refine g_aload_nS dL_law_238 1 rfl ?_
  refine g_iload_n dL_law_239 0 rfl ?_
  refine g_iconst (v := nI 1) dL_law_240 (by decide +kernel) ?_
  refine g_iaddN dL_law_241 ?_
  refine g_sald rfl dL_law_242 (vpin (by omega) (by omega)) (congrArg xs (cl_ (by omega))) ?_
  refine g_callVq (st1 := [.int ((oSize σ (xs (i + 1))).1), .int ((oSize σ (xs (i + 1))).1)]) dL_law_243 (ev_y_size HM1 ok (xs (i + 1))) oX9_size wiX9_size weX9_size wmL_26 kX9 (hM1) rfl ⟨(Nat.le_of_ble_eq_true rfl), (Nat.le_of_ble_eq_true rfl)⟩ ⟨(Nat.le_of_ble_eq_true rfl), (Nat.le_of_ble_eq_true rfl)⟩ (Nat.le_of_ble_eq_true rfl) rfl rfl (fun h2 q2 => ?_)
  obtain ⟨HM2, s2⟩ := q2
  have HC2 := HC1.mv s2 (by omega)
  refine g_icmp_eq 1122 dL_law_246 (by decide) (fun c246 => ?_) (fun z => absurd z (not_not_intro rfl))
  refine g_iinc (q := 0) (v := nI (i + 5)) (ls' := [(3, .int (nI (i + 5))), (0, .retAddr 0), (1, .ref 0), (2, .ref 98)]) dL_law_1122 rfl (incN _ 5) (Nat.le_of_ble_eq_true rfl) rfl ?_
  refine g_goto 18 dL_law_1125 (by decide) ?_
  exact K _ _ HC2 HM2 (ok_size ok (xs (i + 1)))

set_option maxRecDepth 100000 in
set_option maxHeartbeats 4000000 in
theorem lw_c3 {nm : String} {L : Nat} {xs : Nat → Int32} {h : List aC} {σ : Sg} (HC : RC h σ) (HM : RM h σ) (ok : okSg σ) {i : Nat} (hi : i + 5 ≤ L) (hL : L ≤ 2560) (K : ∀ h' σ', RC h' σ' → RM h' σ' → okSg σ' → G (mLn nm) room_1 (some (L, xs)) PL 120 7679 18 [(3, .int (nI ((i + 5)))), (0, .retAddr 0), (1, .ref 0), (2, .ref 98)] [] h') : G (mLn nm) room_1 (some (L, xs)) PL 120 7679 32 [(3, .int (nI i)), (0, .retAddr 0), (1, .ref 0), (2, .ref 98)] [.int (nI 3)] h := by
  obtain ⟨fs9, hM⟩ := HM.o
  refine g_tableIn 251 dL_law_32 (by decide +kernel) (by decide +kernel) (off := 219) (by decide +kernel) (by decide) ?_
  refine g_aload_n dL_law_251 2 rfl ?_
  refine g_aload_nS dL_law_252 1 rfl ?_
  refine g_iload_n dL_law_253 0 rfl ?_
  refine g_iconst (v := nI 1) dL_law_254 (by decide +kernel) ?_
  refine g_iaddN dL_law_255 ?_
  refine g_sald rfl dL_law_256 (vpin (by omega) (by omega)) (congrArg xs (cl_ (by omega))) ?_
  refine g_aload_nS dL_law_257 1 rfl ?_
  refine g_iload_n dL_law_258 0 rfl ?_
  refine g_iconst (v := nI 2) dL_law_259 (by decide +kernel) ?_
  refine g_iaddN dL_law_260 ?_
  refine g_sald rfl dL_law_261 (vpin (by omega) (by omega)) (congrArg xs (cl_ (by omega))) ?_
  refine g_callVq (st1 := [.int ((oPair σ (xs (i + 1)) (xs (i + 2))).1)]) dL_law_262 (ev_x_pair HC ok (xs (i + 1)) (xs (i + 2))) oX8_pair wiX8_pair weX8_pair wmL_27 kX8 (HC.1) rfl ⟨(Nat.le_of_ble_eq_true rfl), (Nat.le_of_ble_eq_true rfl)⟩ ⟨(Nat.le_of_ble_eq_true rfl), (Nat.le_of_ble_eq_true rfl)⟩ (Nat.le_of_ble_eq_true rfl) rfl rfl (fun h1 q1 => ?_)
  obtain ⟨HC1, s1⟩ := q1
  have HM1 := HM.mv s1 (by omega)
  obtain ⟨fs8, hM1⟩ := HM1.o
  refine g_aload_n dL_law_265 3 rfl ?_
  refine g_aload_nS dL_law_266 1 rfl ?_
  refine g_iload_n dL_law_267 0 rfl ?_
  refine g_iconst (v := nI 1) dL_law_268 (by decide +kernel) ?_
  refine g_iaddN dL_law_269 ?_
  refine g_sald rfl dL_law_270 (vpin (by omega) (by omega)) (congrArg xs (cl_ (by omega))) ?_
  refine g_aload_nS dL_law_271 1 rfl ?_
  refine g_iload_n dL_law_272 0 rfl ?_
  refine g_iconst (v := nI 2) dL_law_273 (by decide +kernel) ?_
  refine g_iaddN dL_law_274 ?_
  refine g_sald rfl dL_law_275 (vpin (by omega) (by omega)) (congrArg xs (cl_ (by omega))) ?_
  refine g_callVq (st1 := [.int ((oPair σ (xs (i + 1)) (xs (i + 2))).1), .int ((oPair σ (xs (i + 1)) (xs (i + 2))).1)]) dL_law_276 (ev_y_pair HM1 ok (xs (i + 1)) (xs (i + 2))) oX9_pair wiX9_pair weX9_pair wmL_31 kX9 (hM1) rfl ⟨(Nat.le_of_ble_eq_true rfl), (Nat.le_of_ble_eq_true rfl)⟩ ⟨(Nat.le_of_ble_eq_true rfl), (Nat.le_of_ble_eq_true rfl)⟩ (Nat.le_of_ble_eq_true rfl) rfl rfl (fun h2 q2 => ?_)
  obtain ⟨HM2, s2⟩ := q2
  have HC2 := HC1.mv s2 (by omega)
  refine g_icmp_eq 1122 dL_law_279 (by decide) (fun c279 => ?_) (fun z => absurd z (not_not_intro rfl))
  refine g_iinc (q := 0) (v := nI (i + 5)) (ls' := [(3, .int (nI (i + 5))), (0, .retAddr 0), (1, .ref 0), (2, .ref 98)]) dL_law_1122 rfl (incN _ 5) (Nat.le_of_ble_eq_true rfl) rfl ?_
  refine g_goto 18 dL_law_1125 (by decide) ?_
  exact K _ _ HC2 HM2 (ok_pair ok (xs (i + 1)) (xs (i + 2)))

set_option maxRecDepth 100000 in
set_option maxHeartbeats 4000000 in
theorem lw_c4 {nm : String} {L : Nat} {xs : Nat → Int32} {h : List aC} {σ : Sg} (HC : RC h σ) (HM : RM h σ) (ok : okSg σ) {i : Nat} (hi : i + 5 ≤ L) (hL : L ≤ 2560) (K : ∀ h' σ', RC h' σ' → RM h' σ' → okSg σ' → G (mLn nm) room_1 (some (L, xs)) PL 120 7679 18 [(3, .int (nI ((i + 5)))), (0, .retAddr 0), (1, .ref 0), (2, .ref 98)] [] h') : G (mLn nm) room_1 (some (L, xs)) PL 120 7679 32 [(3, .int (nI i)), (0, .retAddr 0), (1, .ref 0), (2, .ref 98)] [.int (nI 4)] h := by
  obtain ⟨fs9, hM⟩ := HM.o
  refine g_tableIn 284 dL_law_32 (by decide +kernel) (by decide +kernel) (off := 252) (by decide +kernel) (by decide) ?_
  refine g_aload_n dL_law_284 2 rfl ?_
  refine g_callVq (st1 := [.int ((oDrop σ).1)]) dL_law_285 (ev_x_drop HC ok ) oX8_drop wiX8_drop weX8_drop wmL_32 kX8 (HC.1) rfl ⟨(Nat.le_of_ble_eq_true rfl), (Nat.le_of_ble_eq_true rfl)⟩ ⟨(Nat.le_of_ble_eq_true rfl), (Nat.le_of_ble_eq_true rfl)⟩ (Nat.le_of_ble_eq_true rfl) rfl rfl (fun h1 q1 => ?_)
  obtain ⟨HC1, s1⟩ := q1
  have HM1 := HM.mv s1 (by omega)
  obtain ⟨fs8, hM1⟩ := HM1.o
  refine g_aload_n dL_law_288 3 rfl ?_
  refine g_callVq (st1 := [.int ((oDrop σ).1), .int ((oDrop σ).1)]) dL_law_289 (ev_y_drop HM1 ok ) oX9_drop wiX9_drop weX9_drop wmL_35 kX9 (hM1) rfl ⟨(Nat.le_of_ble_eq_true rfl), (Nat.le_of_ble_eq_true rfl)⟩ ⟨(Nat.le_of_ble_eq_true rfl), (Nat.le_of_ble_eq_true rfl)⟩ (Nat.le_of_ble_eq_true rfl) rfl rfl (fun h2 q2 => ?_)
  obtain ⟨HM2, s2⟩ := q2
  have HC2 := HC1.mv s2 (by omega)
  refine g_icmp_eq 1122 dL_law_292 (by decide) (fun c292 => ?_) (fun z => absurd z (not_not_intro rfl))
  refine g_iinc (q := 0) (v := nI (i + 5)) (ls' := [(3, .int (nI (i + 5))), (0, .retAddr 0), (1, .ref 0), (2, .ref 98)]) dL_law_1122 rfl (incN _ 5) (Nat.le_of_ble_eq_true rfl) rfl ?_
  refine g_goto 18 dL_law_1125 (by decide) ?_
  exact K _ _ HC2 HM2 (ok_drop ok )

set_option maxRecDepth 100000 in
set_option maxHeartbeats 4000000 in
theorem lw_c5 {nm : String} {L : Nat} {xs : Nat → Int32} {h : List aC} {σ : Sg} (HC : RC h σ) (HM : RM h σ) (ok : okSg σ) {i : Nat} (hi : i + 5 ≤ L) (hL : L ≤ 2560) (K : ∀ h' σ', RC h' σ' → RM h' σ' → okSg σ' → G (mLn nm) room_1 (some (L, xs)) PL 120 7679 18 [(3, .int (nI ((i + 5)))), (0, .retAddr 0), (1, .ref 0), (2, .ref 98)] [] h') : G (mLn nm) room_1 (some (L, xs)) PL 120 7679 32 [(3, .int (nI i)), (0, .retAddr 0), (1, .ref 0), (2, .ref 98)] [.int (nI 5)] h := by
  obtain ⟨fs9, hM⟩ := HM.o
  refine g_tableIn 297 dL_law_32 (by decide +kernel) (by decide +kernel) (off := 265) (by decide +kernel) (by decide) ?_
  refine g_aload_n dL_law_297 2 rfl ?_
  refine g_aload_nS dL_law_298 1 rfl ?_
  refine g_iload_n dL_law_299 0 rfl ?_
  refine g_iconst (v := nI 1) dL_law_300 (by decide +kernel) ?_
  refine g_iaddN dL_law_301 ?_
  refine g_sald rfl dL_law_302 (vpin (by omega) (by omega)) (congrArg xs (cl_ (by omega))) ?_
  refine g_aload_nS dL_law_303 1 rfl ?_
  refine g_iload_n dL_law_304 0 rfl ?_
  refine g_iconst (v := nI 2) dL_law_305 (by decide +kernel) ?_
  refine g_iaddN dL_law_306 ?_
  refine g_sald rfl dL_law_307 (vpin (by omega) (by omega)) (congrArg xs (cl_ (by omega))) ?_
  refine g_callVq (st1 := [.int ((oAdder σ (xs (i + 1)) (xs (i + 2))).1)]) dL_law_308 (ev_x_adder HC ok (xs (i + 1)) (xs (i + 2))) oX8_adder wiX8_adder weX8_adder wmL_36 kX8 (HC.1) rfl ⟨(Nat.le_of_ble_eq_true rfl), (Nat.le_of_ble_eq_true rfl)⟩ ⟨(Nat.le_of_ble_eq_true rfl), (Nat.le_of_ble_eq_true rfl)⟩ (Nat.le_of_ble_eq_true rfl) rfl rfl (fun h1 q1 => ?_)
  obtain ⟨HC1, s1⟩ := q1
  have HM1 := HM.mv s1 (by omega)
  obtain ⟨fs8, hM1⟩ := HM1.o
  refine g_aload_n dL_law_311 3 rfl ?_
  refine g_aload_nS dL_law_312 1 rfl ?_
  refine g_iload_n dL_law_313 0 rfl ?_
  refine g_iconst (v := nI 1) dL_law_314 (by decide +kernel) ?_
  refine g_iaddN dL_law_315 ?_
  refine g_sald rfl dL_law_316 (vpin (by omega) (by omega)) (congrArg xs (cl_ (by omega))) ?_
  refine g_aload_nS dL_law_317 1 rfl ?_
  refine g_iload_n dL_law_318 0 rfl ?_
  refine g_iconst (v := nI 2) dL_law_319 (by decide +kernel) ?_
  refine g_iaddN dL_law_320 ?_
  refine g_sald rfl dL_law_321 (vpin (by omega) (by omega)) (congrArg xs (cl_ (by omega))) ?_
  refine g_callVq (st1 := [.int ((oAdder σ (xs (i + 1)) (xs (i + 2))).1), .int ((oAdder σ (xs (i + 1)) (xs (i + 2))).1)]) dL_law_322 (ev_y_adder HM1 ok (xs (i + 1)) (xs (i + 2))) oX9_adder wiX9_adder weX9_adder wmL_39 kX9 (hM1) rfl ⟨(Nat.le_of_ble_eq_true rfl), (Nat.le_of_ble_eq_true rfl)⟩ ⟨(Nat.le_of_ble_eq_true rfl), (Nat.le_of_ble_eq_true rfl)⟩ (Nat.le_of_ble_eq_true rfl) rfl rfl (fun h2 q2 => ?_)
  obtain ⟨HM2, s2⟩ := q2
  have HC2 := HC1.mv s2 (by omega)
  refine g_icmp_eq 1122 dL_law_325 (by decide) (fun c325 => ?_) (fun z => absurd z (not_not_intro rfl))
  refine g_iinc (q := 0) (v := nI (i + 5)) (ls' := [(3, .int (nI (i + 5))), (0, .retAddr 0), (1, .ref 0), (2, .ref 98)]) dL_law_1122 rfl (incN _ 5) (Nat.le_of_ble_eq_true rfl) rfl ?_
  refine g_goto 18 dL_law_1125 (by decide) ?_
  exact K _ _ HC2 HM2 (ok_adder ok (xs (i + 1)) (xs (i + 2)))

set_option maxRecDepth 100000 in
set_option maxHeartbeats 4000000 in
theorem lw_c6 {nm : String} {L : Nat} {xs : Nat → Int32} {h : List aC} {σ : Sg} (HC : RC h σ) (HM : RM h σ) (ok : okSg σ) {i : Nat} (hi : i + 5 ≤ L) (hL : L ≤ 2560) (K : ∀ h' σ', RC h' σ' → RM h' σ' → okSg σ' → G (mLn nm) room_1 (some (L, xs)) PL 120 7679 18 [(3, .int (nI ((i + 5)))), (0, .retAddr 0), (1, .ref 0), (2, .ref 98)] [] h') : G (mLn nm) room_1 (some (L, xs)) PL 120 7679 32 [(3, .int (nI i)), (0, .retAddr 0), (1, .ref 0), (2, .ref 98)] [.int (nI 6)] h := by
  obtain ⟨fs9, hM⟩ := HM.o
  refine g_tableIn 330 dL_law_32 (by decide +kernel) (by decide +kernel) (off := 298) (by decide +kernel) (by decide) ?_
  refine g_aload_n dL_law_330 2 rfl ?_
  refine g_aload_nS dL_law_331 1 rfl ?_
  refine g_iload_n dL_law_332 0 rfl ?_
  refine g_iconst (v := nI 1) dL_law_333 (by decide +kernel) ?_
  refine g_iaddN dL_law_334 ?_
  refine g_sald rfl dL_law_335 (vpin (by omega) (by omega)) (congrArg xs (cl_ (by omega))) ?_
  refine g_aload_nS dL_law_336 1 rfl ?_
  refine g_iload_n dL_law_337 0 rfl ?_
  refine g_iconst (v := nI 2) dL_law_338 (by decide +kernel) ?_
  refine g_iaddN dL_law_339 ?_
  refine g_sald rfl dL_law_340 (vpin (by omega) (by omega)) (congrArg xs (cl_ (by omega))) ?_
  refine g_callVq (st1 := [.int ((oOf σ (xs (i + 1)) (xs (i + 2))).1)]) dL_law_341 (ev_x_of HC ok (xs (i + 1)) (xs (i + 2))) oX8_of wiX8_of weX8_of wmL_40 kX8 (HC.1) rfl ⟨(Nat.le_of_ble_eq_true rfl), (Nat.le_of_ble_eq_true rfl)⟩ ⟨(Nat.le_of_ble_eq_true rfl), (Nat.le_of_ble_eq_true rfl)⟩ (Nat.le_of_ble_eq_true rfl) rfl rfl (fun h1 q1 => ?_)
  obtain ⟨HC1, s1⟩ := q1
  have HM1 := HM.mv s1 (by omega)
  obtain ⟨fs8, hM1⟩ := HM1.o
  refine g_aload_n dL_law_344 3 rfl ?_
  refine g_aload_nS dL_law_345 1 rfl ?_
  refine g_iload_n dL_law_346 0 rfl ?_
  refine g_iconst (v := nI 1) dL_law_347 (by decide +kernel) ?_
  refine g_iaddN dL_law_348 ?_
  refine g_sald rfl dL_law_349 (vpin (by omega) (by omega)) (congrArg xs (cl_ (by omega))) ?_
  refine g_aload_nS dL_law_350 1 rfl ?_
  refine g_iload_n dL_law_351 0 rfl ?_
  refine g_iconst (v := nI 2) dL_law_352 (by decide +kernel) ?_
  refine g_iaddN dL_law_353 ?_
  refine g_sald rfl dL_law_354 (vpin (by omega) (by omega)) (congrArg xs (cl_ (by omega))) ?_
  refine g_callVq (st1 := [.int ((oOf σ (xs (i + 1)) (xs (i + 2))).1), .int ((oOf σ (xs (i + 1)) (xs (i + 2))).1)]) dL_law_355 (ev_y_of HM1 ok (xs (i + 1)) (xs (i + 2))) oX9_of wiX9_of weX9_of wmL_43 kX9 (hM1) rfl ⟨(Nat.le_of_ble_eq_true rfl), (Nat.le_of_ble_eq_true rfl)⟩ ⟨(Nat.le_of_ble_eq_true rfl), (Nat.le_of_ble_eq_true rfl)⟩ (Nat.le_of_ble_eq_true rfl) rfl rfl (fun h2 q2 => ?_)
  obtain ⟨HM2, s2⟩ := q2
  have HC2 := HC1.mv s2 (by omega)
  refine g_icmp_eq 1122 dL_law_358 (by decide) (fun c358 => ?_) (fun z => absurd z (not_not_intro rfl))
  refine g_iinc (q := 0) (v := nI (i + 5)) (ls' := [(3, .int (nI (i + 5))), (0, .retAddr 0), (1, .ref 0), (2, .ref 98)]) dL_law_1122 rfl (incN _ 5) (Nat.le_of_ble_eq_true rfl) rfl ?_
  refine g_goto 18 dL_law_1125 (by decide) ?_
  exact K _ _ HC2 HM2 (ok_of ok (xs (i + 1)) (xs (i + 2)))

set_option maxRecDepth 100000 in
set_option maxHeartbeats 4000000 in
theorem lw_c7 {nm : String} {L : Nat} {xs : Nat → Int32} {h : List aC} {σ : Sg} (HC : RC h σ) (HM : RM h σ) (ok : okSg σ) {i : Nat} (hi : i + 5 ≤ L) (hL : L ≤ 2560) (K : ∀ h' σ', RC h' σ' → RM h' σ' → okSg σ' → G (mLn nm) room_1 (some (L, xs)) PL 120 7679 18 [(3, .int (nI ((i + 5)))), (0, .retAddr 0), (1, .ref 0), (2, .ref 98)] [] h') : G (mLn nm) room_1 (some (L, xs)) PL 120 7679 32 [(3, .int (nI i)), (0, .retAddr 0), (1, .ref 0), (2, .ref 98)] [.int (nI 7)] h := by
  obtain ⟨fs9, hM⟩ := HM.o
  refine g_tableIn 363 dL_law_32 (by decide +kernel) (by decide +kernel) (off := 331) (by decide +kernel) (by decide) ?_
  refine g_aload_n dL_law_363 2 rfl ?_
  refine g_aload_nS dL_law_364 1 rfl ?_
  refine g_iload_n dL_law_365 0 rfl ?_
  refine g_iconst (v := nI 1) dL_law_366 (by decide +kernel) ?_
  refine g_iaddN dL_law_367 ?_
  refine g_sald rfl dL_law_368 (vpin (by omega) (by omega)) (congrArg xs (cl_ (by omega))) ?_
  refine g_callVq (st1 := [.int ((oIs σ (xs (i + 1))).1)]) dL_law_369 (ev_x_is HC ok (xs (i + 1))) oX8_is wiX8_is weX8_is wmL_44 kX8 (HC.1) rfl ⟨(Nat.le_of_ble_eq_true rfl), (Nat.le_of_ble_eq_true rfl)⟩ ⟨(Nat.le_of_ble_eq_true rfl), (Nat.le_of_ble_eq_true rfl)⟩ (Nat.le_of_ble_eq_true rfl) rfl rfl (fun h1 q1 => ?_)
  obtain ⟨HC1, s1⟩ := q1
  have HM1 := HM.mv s1 (by omega)
  obtain ⟨fs8, hM1⟩ := HM1.o
  refine g_aload_n dL_law_372 3 rfl ?_
  refine g_aload_nS dL_law_373 1 rfl ?_
  refine g_iload_n dL_law_374 0 rfl ?_
  refine g_iconst (v := nI 1) dL_law_375 (by decide +kernel) ?_
  refine g_iaddN dL_law_376 ?_
  refine g_sald rfl dL_law_377 (vpin (by omega) (by omega)) (congrArg xs (cl_ (by omega))) ?_
  refine g_callVq (st1 := [.int ((oIs σ (xs (i + 1))).1), .int ((oIs σ (xs (i + 1))).1)]) dL_law_378 (ev_y_is HM1 ok (xs (i + 1))) oX9_is wiX9_is weX9_is wmL_47 kX9 (hM1) rfl ⟨(Nat.le_of_ble_eq_true rfl), (Nat.le_of_ble_eq_true rfl)⟩ ⟨(Nat.le_of_ble_eq_true rfl), (Nat.le_of_ble_eq_true rfl)⟩ (Nat.le_of_ble_eq_true rfl) rfl rfl (fun h2 q2 => ?_)
  obtain ⟨HM2, s2⟩ := q2
  have HC2 := HC1.mv s2 (by omega)
  refine g_icmp_eq 1122 dL_law_381 (by decide) (fun c381 => ?_) (fun z => absurd z (not_not_intro rfl))
  refine g_iinc (q := 0) (v := nI (i + 5)) (ls' := [(3, .int (nI (i + 5))), (0, .retAddr 0), (1, .ref 0), (2, .ref 98)]) dL_law_1122 rfl (incN _ 5) (Nat.le_of_ble_eq_true rfl) rfl ?_
  refine g_goto 18 dL_law_1125 (by decide) ?_
  exact K _ _ HC2 HM2 (ok_is ok (xs (i + 1)))

set_option maxRecDepth 100000 in
set_option maxHeartbeats 4000000 in
theorem lw_c8 {nm : String} {L : Nat} {xs : Nat → Int32} {h : List aC} {σ : Sg} (HC : RC h σ) (HM : RM h σ) (ok : okSg σ) {i : Nat} (hi : i + 5 ≤ L) (hL : L ≤ 2560) (K : ∀ h' σ', RC h' σ' → RM h' σ' → okSg σ' → G (mLn nm) room_1 (some (L, xs)) PL 120 7679 18 [(3, .int (nI ((i + 5)))), (0, .retAddr 0), (1, .ref 0), (2, .ref 98)] [] h') : G (mLn nm) room_1 (some (L, xs)) PL 120 7679 32 [(3, .int (nI i)), (0, .retAddr 0), (1, .ref 0), (2, .ref 98)] [.int (nI 8)] h := by
  obtain ⟨fs9, hM⟩ := HM.o
  refine g_tableIn 386 dL_law_32 (by decide +kernel) (by decide +kernel) (off := 354) (by decide +kernel) (by decide) ?_
  refine g_aload_n dL_law_386 2 rfl ?_
  refine g_callVq (st1 := [.int ((oBook σ).1)]) dL_law_387 (ev_x_book HC ok ) oX8_book wiX8_book weX8_book wmL_48 kX8 (HC.1) rfl ⟨(Nat.le_of_ble_eq_true rfl), (Nat.le_of_ble_eq_true rfl)⟩ ⟨(Nat.le_of_ble_eq_true rfl), (Nat.le_of_ble_eq_true rfl)⟩ (Nat.le_of_ble_eq_true rfl) rfl rfl (fun h1 q1 => ?_)
  obtain ⟨HC1, s1⟩ := q1
  have HM1 := HM.mv s1 (by omega)
  obtain ⟨fs8, hM1⟩ := HM1.o
  refine g_aload_n dL_law_390 3 rfl ?_
  refine g_callVq (st1 := [.int ((oBook σ).1), .int ((oBook σ).1)]) dL_law_391 (ev_y_book HM1 ok ) oX9_book wiX9_book weX9_book wmL_51 kX9 (hM1) rfl ⟨(Nat.le_of_ble_eq_true rfl), (Nat.le_of_ble_eq_true rfl)⟩ ⟨(Nat.le_of_ble_eq_true rfl), (Nat.le_of_ble_eq_true rfl)⟩ (Nat.le_of_ble_eq_true rfl) rfl rfl (fun h2 q2 => ?_)
  obtain ⟨HM2, s2⟩ := q2
  have HC2 := HC1.mv s2 (by omega)
  refine g_icmp_eq 1122 dL_law_394 (by decide) (fun c394 => ?_) (fun z => absurd z (not_not_intro rfl))
  refine g_iinc (q := 0) (v := nI (i + 5)) (ls' := [(3, .int (nI (i + 5))), (0, .retAddr 0), (1, .ref 0), (2, .ref 98)]) dL_law_1122 rfl (incN _ 5) (Nat.le_of_ble_eq_true rfl) rfl ?_
  refine g_goto 18 dL_law_1125 (by decide) ?_
  exact K _ _ HC2 HM2 (ok_book ok )

set_option maxRecDepth 100000 in
set_option maxHeartbeats 4000000 in
theorem lw_c9 {nm : String} {L : Nat} {xs : Nat → Int32} {h : List aC} {σ : Sg} (HC : RC h σ) (HM : RM h σ) (ok : okSg σ) {i : Nat} (hi : i + 5 ≤ L) (hL : L ≤ 2560) (K : ∀ h' σ', RC h' σ' → RM h' σ' → okSg σ' → G (mLn nm) room_1 (some (L, xs)) PL 120 7679 18 [(3, .int (nI ((i + 5)))), (0, .retAddr 0), (1, .ref 0), (2, .ref 98)] [] h') : G (mLn nm) room_1 (some (L, xs)) PL 120 7679 32 [(3, .int (nI i)), (0, .retAddr 0), (1, .ref 0), (2, .ref 98)] [.int (nI 9)] h := by
  obtain ⟨fs9, hM⟩ := HM.o
  refine g_tableIn 399 dL_law_32 (by decide +kernel) (by decide +kernel) (off := 367) (by decide +kernel) (by decide) ?_
  refine g_aload_n dL_law_399 2 rfl ?_
  refine g_aload_nS dL_law_400 1 rfl ?_
  refine g_iload_n dL_law_401 0 rfl ?_
  refine g_iconst (v := nI 1) dL_law_402 (by decide +kernel) ?_
  refine g_iaddN dL_law_403 ?_
  refine g_sald rfl dL_law_404 (vpin (by omega) (by omega)) (congrArg xs (cl_ (by omega))) ?_
  refine g_callVq (st1 := [.int ((oRight σ (xs (i + 1))).1)]) dL_law_405 (ev_x_right HC ok (xs (i + 1))) oX8_right wiX8_right weX8_right wmL_52 kX8 (HC.1) rfl ⟨(Nat.le_of_ble_eq_true rfl), (Nat.le_of_ble_eq_true rfl)⟩ ⟨(Nat.le_of_ble_eq_true rfl), (Nat.le_of_ble_eq_true rfl)⟩ (Nat.le_of_ble_eq_true rfl) rfl rfl (fun h1 q1 => ?_)
  obtain ⟨HC1, s1⟩ := q1
  have HM1 := HM.mv s1 (by omega)
  obtain ⟨fs8, hM1⟩ := HM1.o
  refine g_aload_n dL_law_408 3 rfl ?_
  refine g_aload_nS dL_law_409 1 rfl ?_
  refine g_iload_n dL_law_410 0 rfl ?_
  refine g_iconst (v := nI 1) dL_law_411 (by decide +kernel) ?_
  refine g_iaddN dL_law_412 ?_
  refine g_sald rfl dL_law_413 (vpin (by omega) (by omega)) (congrArg xs (cl_ (by omega))) ?_
  refine g_callVq (st1 := [.int ((oRight σ (xs (i + 1))).1), .int ((oRight σ (xs (i + 1))).1)]) dL_law_414 (ev_y_right HM1 ok (xs (i + 1))) oX9_right wiX9_right weX9_right wmL_55 kX9 (hM1) rfl ⟨(Nat.le_of_ble_eq_true rfl), (Nat.le_of_ble_eq_true rfl)⟩ ⟨(Nat.le_of_ble_eq_true rfl), (Nat.le_of_ble_eq_true rfl)⟩ (Nat.le_of_ble_eq_true rfl) rfl rfl (fun h2 q2 => ?_)
  obtain ⟨HM2, s2⟩ := q2
  have HC2 := HC1.mv s2 (by omega)
  refine g_icmp_eq 1122 dL_law_417 (by decide) (fun c417 => ?_) (fun z => absurd z (not_not_intro rfl))
  refine g_iinc (q := 0) (v := nI (i + 5)) (ls' := [(3, .int (nI (i + 5))), (0, .retAddr 0), (1, .ref 0), (2, .ref 98)]) dL_law_1122 rfl (incN _ 5) (Nat.le_of_ble_eq_true rfl) rfl ?_
  refine g_goto 18 dL_law_1125 (by decide) ?_
  exact K _ _ HC2 HM2 (ok_right ok (xs (i + 1)))

set_option maxRecDepth 100000 in
set_option maxHeartbeats 4000000 in
theorem lw_c10 {nm : String} {L : Nat} {xs : Nat → Int32} {h : List aC} {σ : Sg} (HC : RC h σ) (HM : RM h σ) (ok : okSg σ) {i : Nat} (hi : i + 5 ≤ L) (hL : L ≤ 2560) (K : ∀ h' σ', RC h' σ' → RM h' σ' → okSg σ' → G (mLn nm) room_1 (some (L, xs)) PL 120 7679 18 [(3, .int (nI ((i + 5)))), (0, .retAddr 0), (1, .ref 0), (2, .ref 98)] [] h') : G (mLn nm) room_1 (some (L, xs)) PL 120 7679 32 [(3, .int (nI i)), (0, .retAddr 0), (1, .ref 0), (2, .ref 98)] [.int (nI 10)] h := by
  obtain ⟨fs9, hM⟩ := HM.o
  refine g_tableIn 422 dL_law_32 (by decide +kernel) (by decide +kernel) (off := 390) (by decide +kernel) (by decide) ?_
  refine g_aload_n dL_law_422 2 rfl ?_
  refine g_callVq (st1 := [.int ((oBuild σ).1)]) dL_law_423 (ev_x_build HC ok ) oX8_build wiX8_build weX8_build wmL_56 kX8 (HC.1) rfl ⟨(Nat.le_of_ble_eq_true rfl), (Nat.le_of_ble_eq_true rfl)⟩ ⟨(Nat.le_of_ble_eq_true rfl), (Nat.le_of_ble_eq_true rfl)⟩ (Nat.le_of_ble_eq_true rfl) rfl rfl (fun h1 q1 => ?_)
  obtain ⟨HC1, s1⟩ := q1
  have HM1 := HM.mv s1 (by omega)
  obtain ⟨fs8, hM1⟩ := HM1.o
  refine g_aload_n dL_law_426 3 rfl ?_
  refine g_callVq (st1 := [.int ((oBuild σ).1), .int ((oBuild σ).1)]) dL_law_427 (ev_y_build HM1 ok ) oX9_build wiX9_build weX9_build wmL_59 kX9 (hM1) rfl ⟨(Nat.le_of_ble_eq_true rfl), (Nat.le_of_ble_eq_true rfl)⟩ ⟨(Nat.le_of_ble_eq_true rfl), (Nat.le_of_ble_eq_true rfl)⟩ (Nat.le_of_ble_eq_true rfl) rfl rfl (fun h2 q2 => ?_)
  obtain ⟨HM2, s2⟩ := q2
  have HC2 := HC1.mv s2 (by omega)
  refine g_icmp_eq 1122 dL_law_430 (by decide) (fun c430 => ?_) (fun z => absurd z (not_not_intro rfl))
  refine g_iinc (q := 0) (v := nI (i + 5)) (ls' := [(3, .int (nI (i + 5))), (0, .retAddr 0), (1, .ref 0), (2, .ref 98)]) dL_law_1122 rfl (incN _ 5) (Nat.le_of_ble_eq_true rfl) rfl ?_
  refine g_goto 18 dL_law_1125 (by decide) ?_
  exact K _ _ HC2 HM2 (ok_build ok )

set_option maxRecDepth 100000 in
set_option maxHeartbeats 4000000 in
theorem lw_c11 {nm : String} {L : Nat} {xs : Nat → Int32} {h : List aC} {σ : Sg} (HC : RC h σ) (HM : RM h σ) (ok : okSg σ) {i : Nat} (hi : i + 5 ≤ L) (hL : L ≤ 2560) (K : ∀ h' σ', RC h' σ' → RM h' σ' → okSg σ' → G (mLn nm) room_1 (some (L, xs)) PL 120 7679 18 [(3, .int (nI ((i + 5)))), (0, .retAddr 0), (1, .ref 0), (2, .ref 98)] [] h') : G (mLn nm) room_1 (some (L, xs)) PL 120 7679 32 [(3, .int (nI i)), (0, .retAddr 0), (1, .ref 0), (2, .ref 98)] [.int (nI 11)] h := by
  obtain ⟨fs9, hM⟩ := HM.o
  refine g_tableIn 435 dL_law_32 (by decide +kernel) (by decide +kernel) (off := 403) (by decide +kernel) (by decide) ?_
  refine g_aload_n dL_law_435 2 rfl ?_
  refine g_aload_nS dL_law_436 1 rfl ?_
  refine g_iload_n dL_law_437 0 rfl ?_
  refine g_iconst (v := nI 1) dL_law_438 (by decide +kernel) ?_
  refine g_iaddN dL_law_439 ?_
  refine g_sald rfl dL_law_440 (vpin (by omega) (by omega)) (congrArg xs (cl_ (by omega))) ?_
  refine g_aload_nS dL_law_441 1 rfl ?_
  refine g_iload_n dL_law_442 0 rfl ?_
  refine g_iconst (v := nI 2) dL_law_443 (by decide +kernel) ?_
  refine g_iaddN dL_law_444 ?_
  refine g_sald rfl dL_law_445 (vpin (by omega) (by omega)) (congrArg xs (cl_ (by omega))) ?_
  refine g_aload_nS dL_law_446 1 rfl ?_
  refine g_iload_n dL_law_447 0 rfl ?_
  refine g_iconst (v := nI 3) dL_law_448 (by decide +kernel) ?_
  refine g_iaddN dL_law_449 ?_
  refine g_sald rfl dL_law_450 (vpin (by omega) (by omega)) (congrArg xs (cl_ (by omega))) ?_
  refine g_aload_nS dL_law_451 1 rfl ?_
  refine g_iload_n dL_law_452 0 rfl ?_
  refine g_iconst (v := nI 4) dL_law_453 (by decide +kernel) ?_
  refine g_iaddN dL_law_454 ?_
  refine g_sald rfl dL_law_455 (vpin (by omega) (by omega)) (congrArg xs (cl_ (by omega))) ?_
  refine g_callVq (st1 := [.int ((oCell σ (xs (i + 1)) (xs (i + 2)) (xs (i + 3)) (xs (i + 4))).1)]) dL_law_456 (ev_x_cell HC ok (xs (i + 1)) (xs (i + 2)) (xs (i + 3)) (xs (i + 4))) oX8_cell wiX8_cell weX8_cell wmL_60 kX8 (HC.1) rfl ⟨(Nat.le_of_ble_eq_true rfl), (Nat.le_of_ble_eq_true rfl)⟩ ⟨(Nat.le_of_ble_eq_true rfl), (Nat.le_of_ble_eq_true rfl)⟩ (Nat.le_of_ble_eq_true rfl) rfl rfl (fun h1 q1 => ?_)
  obtain ⟨HC1, s1⟩ := q1
  have HM1 := HM.mv s1 (by omega)
  obtain ⟨fs8, hM1⟩ := HM1.o
  refine g_aload_n dL_law_459 3 rfl ?_
  refine g_aload_nS dL_law_460 1 rfl ?_
  refine g_iload_n dL_law_461 0 rfl ?_
  refine g_iconst (v := nI 1) dL_law_462 (by decide +kernel) ?_
  refine g_iaddN dL_law_463 ?_
  refine g_sald rfl dL_law_464 (vpin (by omega) (by omega)) (congrArg xs (cl_ (by omega))) ?_
  refine g_aload_nS dL_law_465 1 rfl ?_
  refine g_iload_n dL_law_466 0 rfl ?_
  refine g_iconst (v := nI 2) dL_law_467 (by decide +kernel) ?_
  refine g_iaddN dL_law_468 ?_
  refine g_sald rfl dL_law_469 (vpin (by omega) (by omega)) (congrArg xs (cl_ (by omega))) ?_
  refine g_aload_nS dL_law_470 1 rfl ?_
  refine g_iload_n dL_law_471 0 rfl ?_
  refine g_iconst (v := nI 3) dL_law_472 (by decide +kernel) ?_
  refine g_iaddN dL_law_473 ?_
  refine g_sald rfl dL_law_474 (vpin (by omega) (by omega)) (congrArg xs (cl_ (by omega))) ?_
  refine g_aload_nS dL_law_475 1 rfl ?_
  refine g_iload_n dL_law_476 0 rfl ?_
  refine g_iconst (v := nI 4) dL_law_477 (by decide +kernel) ?_
  refine g_iaddN dL_law_478 ?_
  refine g_sald rfl dL_law_479 (vpin (by omega) (by omega)) (congrArg xs (cl_ (by omega))) ?_
  refine g_callVq (st1 := [.int ((oCell σ (xs (i + 1)) (xs (i + 2)) (xs (i + 3)) (xs (i + 4))).1), .int ((oCell σ (xs (i + 1)) (xs (i + 2)) (xs (i + 3)) (xs (i + 4))).1)]) dL_law_480 (ev_y_cell HM1 ok (xs (i + 1)) (xs (i + 2)) (xs (i + 3)) (xs (i + 4))) oX9_cell wiX9_cell weX9_cell wmL_64 kX9 (hM1) rfl ⟨(Nat.le_of_ble_eq_true rfl), (Nat.le_of_ble_eq_true rfl)⟩ ⟨(Nat.le_of_ble_eq_true rfl), (Nat.le_of_ble_eq_true rfl)⟩ (Nat.le_of_ble_eq_true rfl) rfl rfl (fun h2 q2 => ?_)
  obtain ⟨HM2, s2⟩ := q2
  have HC2 := HC1.mv s2 (by omega)
  refine g_icmp_eq 1122 dL_law_483 (by decide) (fun c483 => ?_) (fun z => absurd z (not_not_intro rfl))
  refine g_iinc (q := 0) (v := nI (i + 5)) (ls' := [(3, .int (nI (i + 5))), (0, .retAddr 0), (1, .ref 0), (2, .ref 98)]) dL_law_1122 rfl (incN _ 5) (Nat.le_of_ble_eq_true rfl) rfl ?_
  refine g_goto 18 dL_law_1125 (by decide) ?_
  exact K _ _ HC2 HM2 (ok_cell ok (xs (i + 1)) (xs (i + 2)) (xs (i + 3)) (xs (i + 4)))

set_option maxRecDepth 100000 in
set_option maxHeartbeats 4000000 in
theorem lw_c12 {nm : String} {L : Nat} {xs : Nat → Int32} {h : List aC} {σ : Sg} (HC : RC h σ) (HM : RM h σ) (ok : okSg σ) {i : Nat} (hi : i + 5 ≤ L) (hL : L ≤ 2560) (K : ∀ h' σ', RC h' σ' → RM h' σ' → okSg σ' → G (mLn nm) room_1 (some (L, xs)) PL 120 7679 18 [(3, .int (nI ((i + 5)))), (0, .retAddr 0), (1, .ref 0), (2, .ref 98)] [] h') : G (mLn nm) room_1 (some (L, xs)) PL 120 7679 32 [(3, .int (nI i)), (0, .retAddr 0), (1, .ref 0), (2, .ref 98)] [.int (nI 12)] h := by
  obtain ⟨fs9, hM⟩ := HM.o
  refine g_tableIn 488 dL_law_32 (by decide +kernel) (by decide +kernel) (off := 456) (by decide +kernel) (by decide) ?_
  refine g_aload_n dL_law_488 2 rfl ?_
  refine g_aload_nS dL_law_489 1 rfl ?_
  refine g_iload_n dL_law_490 0 rfl ?_
  refine g_iconst (v := nI 1) dL_law_491 (by decide +kernel) ?_
  refine g_iaddN dL_law_492 ?_
  refine g_sald rfl dL_law_493 (vpin (by omega) (by omega)) (congrArg xs (cl_ (by omega))) ?_
  refine g_aload_nS dL_law_494 1 rfl ?_
  refine g_iload_n dL_law_495 0 rfl ?_
  refine g_iconst (v := nI 2) dL_law_496 (by decide +kernel) ?_
  refine g_iaddN dL_law_497 ?_
  refine g_sald rfl dL_law_498 (vpin (by omega) (by omega)) (congrArg xs (cl_ (by omega))) ?_
  refine g_aload_nS dL_law_499 1 rfl ?_
  refine g_iload_n dL_law_500 0 rfl ?_
  refine g_iconst (v := nI 3) dL_law_501 (by decide +kernel) ?_
  refine g_iaddN dL_law_502 ?_
  refine g_sald rfl dL_law_503 (vpin (by omega) (by omega)) (congrArg xs (cl_ (by omega))) ?_
  refine g_callVq (st1 := [.int ((oAt σ (xs (i + 1)) (xs (i + 2)) (xs (i + 3))).1)]) dL_law_504 (ev_x_at HC ok (xs (i + 1)) (xs (i + 2)) (xs (i + 3))) oX8_at wiX8_at weX8_at wmL_65 kX8 (HC.1) rfl ⟨(Nat.le_of_ble_eq_true rfl), (Nat.le_of_ble_eq_true rfl)⟩ ⟨(Nat.le_of_ble_eq_true rfl), (Nat.le_of_ble_eq_true rfl)⟩ (Nat.le_of_ble_eq_true rfl) rfl rfl (fun h1 q1 => ?_)
  obtain ⟨HC1, s1⟩ := q1
  have HM1 := HM.mv s1 (by omega)
  obtain ⟨fs8, hM1⟩ := HM1.o
  refine g_aload_n dL_law_507 3 rfl ?_
  refine g_aload_nS dL_law_508 1 rfl ?_
  refine g_iload_n dL_law_509 0 rfl ?_
  refine g_iconst (v := nI 1) dL_law_510 (by decide +kernel) ?_
  refine g_iaddN dL_law_511 ?_
  refine g_sald rfl dL_law_512 (vpin (by omega) (by omega)) (congrArg xs (cl_ (by omega))) ?_
  refine g_aload_nS dL_law_513 1 rfl ?_
  refine g_iload_n dL_law_514 0 rfl ?_
  refine g_iconst (v := nI 2) dL_law_515 (by decide +kernel) ?_
  refine g_iaddN dL_law_516 ?_
  refine g_sald rfl dL_law_517 (vpin (by omega) (by omega)) (congrArg xs (cl_ (by omega))) ?_
  refine g_aload_nS dL_law_518 1 rfl ?_
  refine g_iload_n dL_law_519 0 rfl ?_
  refine g_iconst (v := nI 3) dL_law_520 (by decide +kernel) ?_
  refine g_iaddN dL_law_521 ?_
  refine g_sald rfl dL_law_522 (vpin (by omega) (by omega)) (congrArg xs (cl_ (by omega))) ?_
  refine g_callVq (st1 := [.int ((oAt σ (xs (i + 1)) (xs (i + 2)) (xs (i + 3))).1), .int ((oAt σ (xs (i + 1)) (xs (i + 2)) (xs (i + 3))).1)]) dL_law_523 (ev_y_at HM1 ok (xs (i + 1)) (xs (i + 2)) (xs (i + 3))) oX9_at wiX9_at weX9_at wmL_69 kX9 (hM1) rfl ⟨(Nat.le_of_ble_eq_true rfl), (Nat.le_of_ble_eq_true rfl)⟩ ⟨(Nat.le_of_ble_eq_true rfl), (Nat.le_of_ble_eq_true rfl)⟩ (Nat.le_of_ble_eq_true rfl) rfl rfl (fun h2 q2 => ?_)
  obtain ⟨HM2, s2⟩ := q2
  have HC2 := HC1.mv s2 (by omega)
  refine g_icmp_eq 1122 dL_law_526 (by decide) (fun c526 => ?_) (fun z => absurd z (not_not_intro rfl))
  refine g_iinc (q := 0) (v := nI (i + 5)) (ls' := [(3, .int (nI (i + 5))), (0, .retAddr 0), (1, .ref 0), (2, .ref 98)]) dL_law_1122 rfl (incN _ 5) (Nat.le_of_ble_eq_true rfl) rfl ?_
  refine g_goto 18 dL_law_1125 (by decide) ?_
  exact K _ _ HC2 HM2 (ok_at ok (xs (i + 1)) (xs (i + 2)) (xs (i + 3)))

set_option maxRecDepth 100000 in
set_option maxHeartbeats 4000000 in
theorem lw_c13 {nm : String} {L : Nat} {xs : Nat → Int32} {h : List aC} {σ : Sg} (HC : RC h σ) (HM : RM h σ) (ok : okSg σ) {i : Nat} (hi : i + 5 ≤ L) (hL : L ≤ 2560) (K : ∀ h' σ', RC h' σ' → RM h' σ' → okSg σ' → G (mLn nm) room_1 (some (L, xs)) PL 120 7679 18 [(3, .int (nI ((i + 5)))), (0, .retAddr 0), (1, .ref 0), (2, .ref 98)] [] h') : G (mLn nm) room_1 (some (L, xs)) PL 120 7679 32 [(3, .int (nI i)), (0, .retAddr 0), (1, .ref 0), (2, .ref 98)] [.int (nI 13)] h := by
  obtain ⟨fs9, hM⟩ := HM.o
  refine g_tableIn 531 dL_law_32 (by decide +kernel) (by decide +kernel) (off := 499) (by decide +kernel) (by decide) ?_
  refine g_aload_n dL_law_531 2 rfl ?_
  refine g_aload_nS dL_law_532 1 rfl ?_
  refine g_iload_n dL_law_533 0 rfl ?_
  refine g_iconst (v := nI 1) dL_law_534 (by decide +kernel) ?_
  refine g_iaddN dL_law_535 ?_
  refine g_sald rfl dL_law_536 (vpin (by omega) (by omega)) (congrArg xs (cl_ (by omega))) ?_
  refine g_aload_nS dL_law_537 1 rfl ?_
  refine g_iload_n dL_law_538 0 rfl ?_
  refine g_iconst (v := nI 2) dL_law_539 (by decide +kernel) ?_
  refine g_iaddN dL_law_540 ?_
  refine g_sald rfl dL_law_541 (vpin (by omega) (by omega)) (congrArg xs (cl_ (by omega))) ?_
  refine g_callVq (st1 := [.int ((oFaults σ (xs (i + 1)) (xs (i + 2))).1)]) dL_law_542 (ev_x_faults HC ok (xs (i + 1)) (xs (i + 2))) oX8_faults wiX8_faults weX8_faults wmL_70 kX8 (HC.1) rfl ⟨(Nat.le_of_ble_eq_true rfl), (Nat.le_of_ble_eq_true rfl)⟩ ⟨(Nat.le_of_ble_eq_true rfl), (Nat.le_of_ble_eq_true rfl)⟩ (Nat.le_of_ble_eq_true rfl) rfl rfl (fun h1 q1 => ?_)
  obtain ⟨HC1, s1⟩ := q1
  have HM1 := HM.mv s1 (by omega)
  obtain ⟨fs8, hM1⟩ := HM1.o
  refine g_aload_n dL_law_545 3 rfl ?_
  refine g_aload_nS dL_law_546 1 rfl ?_
  refine g_iload_n dL_law_547 0 rfl ?_
  refine g_iconst (v := nI 1) dL_law_548 (by decide +kernel) ?_
  refine g_iaddN dL_law_549 ?_
  refine g_sald rfl dL_law_550 (vpin (by omega) (by omega)) (congrArg xs (cl_ (by omega))) ?_
  refine g_aload_nS dL_law_551 1 rfl ?_
  refine g_iload_n dL_law_552 0 rfl ?_
  refine g_iconst (v := nI 2) dL_law_553 (by decide +kernel) ?_
  refine g_iaddN dL_law_554 ?_
  refine g_sald rfl dL_law_555 (vpin (by omega) (by omega)) (congrArg xs (cl_ (by omega))) ?_
  refine g_callVq (st1 := [.int ((oFaults σ (xs (i + 1)) (xs (i + 2))).1), .int ((oFaults σ (xs (i + 1)) (xs (i + 2))).1)]) dL_law_556 (ev_y_faults HM1 ok (xs (i + 1)) (xs (i + 2))) oX9_faults wiX9_faults weX9_faults wmL_73 kX9 (hM1) rfl ⟨(Nat.le_of_ble_eq_true rfl), (Nat.le_of_ble_eq_true rfl)⟩ ⟨(Nat.le_of_ble_eq_true rfl), (Nat.le_of_ble_eq_true rfl)⟩ (Nat.le_of_ble_eq_true rfl) rfl rfl (fun h2 q2 => ?_)
  obtain ⟨HM2, s2⟩ := q2
  have HC2 := HC1.mv s2 (by omega)
  refine g_icmp_eq 1122 dL_law_559 (by decide) (fun c559 => ?_) (fun z => absurd z (not_not_intro rfl))
  refine g_iinc (q := 0) (v := nI (i + 5)) (ls' := [(3, .int (nI (i + 5))), (0, .retAddr 0), (1, .ref 0), (2, .ref 98)]) dL_law_1122 rfl (incN _ 5) (Nat.le_of_ble_eq_true rfl) rfl ?_
  refine g_goto 18 dL_law_1125 (by decide) ?_
  exact K _ _ HC2 HM2 (ok_faults ok (xs (i + 1)) (xs (i + 2)))

set_option maxRecDepth 100000 in
set_option maxHeartbeats 4000000 in
theorem lw_c14 {nm : String} {L : Nat} {xs : Nat → Int32} {h : List aC} {σ : Sg} (HC : RC h σ) (HM : RM h σ) (ok : okSg σ) {i : Nat} (hi : i + 5 ≤ L) (hL : L ≤ 2560) (K : ∀ h' σ', RC h' σ' → RM h' σ' → okSg σ' → G (mLn nm) room_1 (some (L, xs)) PL 120 7679 18 [(3, .int (nI ((i + 5)))), (0, .retAddr 0), (1, .ref 0), (2, .ref 98)] [] h') : G (mLn nm) room_1 (some (L, xs)) PL 120 7679 32 [(3, .int (nI i)), (0, .retAddr 0), (1, .ref 0), (2, .ref 98)] [.int (nI 14)] h := by
  obtain ⟨fs9, hM⟩ := HM.o
  refine g_tableIn 564 dL_law_32 (by decide +kernel) (by decide +kernel) (off := 532) (by decide +kernel) (by decide) ?_
  refine g_aload_n dL_law_564 2 rfl ?_
  refine g_callVq (st1 := [.int ((oIndeed σ).1)]) dL_law_565 (ev_x_indeed HC ok ) oX8_indeed wiX8_indeed weX8_indeed wmL_74 kX8 (HC.1) rfl ⟨(Nat.le_of_ble_eq_true rfl), (Nat.le_of_ble_eq_true rfl)⟩ ⟨(Nat.le_of_ble_eq_true rfl), (Nat.le_of_ble_eq_true rfl)⟩ (Nat.le_of_ble_eq_true rfl) rfl rfl (fun h1 q1 => ?_)
  obtain ⟨HC1, s1⟩ := q1
  have HM1 := HM.mv s1 (by omega)
  obtain ⟨fs8, hM1⟩ := HM1.o
  refine g_aload_n dL_law_568 3 rfl ?_
  refine g_callVq (st1 := [.int ((oIndeed σ).1), .int ((oIndeed σ).1)]) dL_law_569 (ev_y_indeed HM1 ok ) oX9_indeed wiX9_indeed weX9_indeed wmL_77 kX9 (hM1) rfl ⟨(Nat.le_of_ble_eq_true rfl), (Nat.le_of_ble_eq_true rfl)⟩ ⟨(Nat.le_of_ble_eq_true rfl), (Nat.le_of_ble_eq_true rfl)⟩ (Nat.le_of_ble_eq_true rfl) rfl rfl (fun h2 q2 => ?_)
  obtain ⟨HM2, s2⟩ := q2
  have HC2 := HC1.mv s2 (by omega)
  refine g_icmp_eq 1122 dL_law_572 (by decide) (fun c572 => ?_) (fun z => absurd z (not_not_intro rfl))
  refine g_iinc (q := 0) (v := nI (i + 5)) (ls' := [(3, .int (nI (i + 5))), (0, .retAddr 0), (1, .ref 0), (2, .ref 98)]) dL_law_1122 rfl (incN _ 5) (Nat.le_of_ble_eq_true rfl) rfl ?_
  refine g_goto 18 dL_law_1125 (by decide) ?_
  exact K _ _ HC2 HM2 ok

set_option maxRecDepth 100000 in
set_option maxHeartbeats 4000000 in
theorem lw_c15 {nm : String} {L : Nat} {xs : Nat → Int32} {h : List aC} {σ : Sg} (HC : RC h σ) (HM : RM h σ) (ok : okSg σ) {i : Nat} (hi : i + 5 ≤ L) (hL : L ≤ 2560) (K : ∀ h' σ', RC h' σ' → RM h' σ' → okSg σ' → G (mLn nm) room_1 (some (L, xs)) PL 120 7679 18 [(3, .int (nI ((i + 5)))), (0, .retAddr 0), (1, .ref 0), (2, .ref 98)] [] h') : G (mLn nm) room_1 (some (L, xs)) PL 120 7679 32 [(3, .int (nI i)), (0, .retAddr 0), (1, .ref 0), (2, .ref 98)] [.int (nI 15)] h := by
  obtain ⟨fs9, hM⟩ := HM.o
  refine g_tableIn 577 dL_law_32 (by decide +kernel) (by decide +kernel) (off := 545) (by decide +kernel) (by decide) ?_
  refine g_aload_n dL_law_577 2 rfl ?_
  refine g_callVq (st1 := [.int ((oFaced σ).1)]) dL_law_578 (ev_x_faced HC ok ) oX8_faced wiX8_faced weX8_faced wmL_78 kX8 (HC.1) rfl ⟨(Nat.le_of_ble_eq_true rfl), (Nat.le_of_ble_eq_true rfl)⟩ ⟨(Nat.le_of_ble_eq_true rfl), (Nat.le_of_ble_eq_true rfl)⟩ (Nat.le_of_ble_eq_true rfl) rfl rfl (fun h1 q1 => ?_)
  obtain ⟨HC1, s1⟩ := q1
  have HM1 := HM.mv s1 (by omega)
  obtain ⟨fs8, hM1⟩ := HM1.o
  refine g_aload_n dL_law_581 3 rfl ?_
  refine g_callVq (st1 := [.int ((oFaced σ).1), .int ((oFaced σ).1)]) dL_law_582 (ev_y_faced HM1 ok ) oX9_faced wiX9_faced weX9_faced wmL_81 kX9 (hM1) rfl ⟨(Nat.le_of_ble_eq_true rfl), (Nat.le_of_ble_eq_true rfl)⟩ ⟨(Nat.le_of_ble_eq_true rfl), (Nat.le_of_ble_eq_true rfl)⟩ (Nat.le_of_ble_eq_true rfl) rfl rfl (fun h2 q2 => ?_)
  obtain ⟨HM2, s2⟩ := q2
  have HC2 := HC1.mv s2 (by omega)
  refine g_icmp_eq 1122 dL_law_585 (by decide) (fun c585 => ?_) (fun z => absurd z (not_not_intro rfl))
  refine g_iinc (q := 0) (v := nI (i + 5)) (ls' := [(3, .int (nI (i + 5))), (0, .retAddr 0), (1, .ref 0), (2, .ref 98)]) dL_law_1122 rfl (incN _ 5) (Nat.le_of_ble_eq_true rfl) rfl ?_
  refine g_goto 18 dL_law_1125 (by decide) ?_
  exact K _ _ HC2 HM2 ok

set_option maxRecDepth 100000 in
set_option maxHeartbeats 4000000 in
theorem lw_c16 {nm : String} {L : Nat} {xs : Nat → Int32} {h : List aC} {σ : Sg} (HC : RC h σ) (HM : RM h σ) (ok : okSg σ) {i : Nat} (hi : i + 5 ≤ L) (hL : L ≤ 2560) (K : ∀ h' σ', RC h' σ' → RM h' σ' → okSg σ' → G (mLn nm) room_1 (some (L, xs)) PL 120 7679 18 [(3, .int (nI ((i + 5)))), (0, .retAddr 0), (1, .ref 0), (2, .ref 98)] [] h') : G (mLn nm) room_1 (some (L, xs)) PL 120 7679 32 [(3, .int (nI i)), (0, .retAddr 0), (1, .ref 0), (2, .ref 98)] [.int (nI 16)] h := by
  obtain ⟨fs9, hM⟩ := HM.o
  refine g_tableIn 590 dL_law_32 (by decide +kernel) (by decide +kernel) (off := 558) (by decide +kernel) (by decide) ?_
  refine g_aload_n dL_law_590 2 rfl ?_
  refine g_aload_nS dL_law_591 1 rfl ?_
  refine g_iload_n dL_law_592 0 rfl ?_
  refine g_iconst (v := nI 1) dL_law_593 (by decide +kernel) ?_
  refine g_iaddN dL_law_594 ?_
  refine g_sald rfl dL_law_595 (vpin (by omega) (by omega)) (congrArg xs (cl_ (by omega))) ?_
  refine g_aload_nS dL_law_596 1 rfl ?_
  refine g_iload_n dL_law_597 0 rfl ?_
  refine g_iconst (v := nI 2) dL_law_598 (by decide +kernel) ?_
  refine g_iaddN dL_law_599 ?_
  refine g_sald rfl dL_law_600 (vpin (by omega) (by omega)) (congrArg xs (cl_ (by omega))) ?_
  refine g_callVq (st1 := [.int ((oWhere σ (xs (i + 1)) (xs (i + 2))).1)]) dL_law_601 (ev_x_where HC ok (xs (i + 1)) (xs (i + 2))) oX8_where wiX8_where weX8_where wmL_82 kX8 (HC.1) rfl ⟨(Nat.le_of_ble_eq_true rfl), (Nat.le_of_ble_eq_true rfl)⟩ ⟨(Nat.le_of_ble_eq_true rfl), (Nat.le_of_ble_eq_true rfl)⟩ (Nat.le_of_ble_eq_true rfl) rfl rfl (fun h1 q1 => ?_)
  obtain ⟨HC1, s1⟩ := q1
  have HM1 := HM.mv s1 (by omega)
  obtain ⟨fs8, hM1⟩ := HM1.o
  refine g_aload_n dL_law_604 3 rfl ?_
  refine g_aload_nS dL_law_605 1 rfl ?_
  refine g_iload_n dL_law_606 0 rfl ?_
  refine g_iconst (v := nI 1) dL_law_607 (by decide +kernel) ?_
  refine g_iaddN dL_law_608 ?_
  refine g_sald rfl dL_law_609 (vpin (by omega) (by omega)) (congrArg xs (cl_ (by omega))) ?_
  refine g_aload_nS dL_law_610 1 rfl ?_
  refine g_iload_n dL_law_611 0 rfl ?_
  refine g_iconst (v := nI 2) dL_law_612 (by decide +kernel) ?_
  refine g_iaddN dL_law_613 ?_
  refine g_sald rfl dL_law_614 (vpin (by omega) (by omega)) (congrArg xs (cl_ (by omega))) ?_
  refine g_callVq (st1 := [.int ((oWhere σ (xs (i + 1)) (xs (i + 2))).1), .int ((oWhere σ (xs (i + 1)) (xs (i + 2))).1)]) dL_law_615 (ev_y_where HM1 ok (xs (i + 1)) (xs (i + 2))) oX9_where wiX9_where weX9_where wmL_85 kX9 (hM1) rfl ⟨(Nat.le_of_ble_eq_true rfl), (Nat.le_of_ble_eq_true rfl)⟩ ⟨(Nat.le_of_ble_eq_true rfl), (Nat.le_of_ble_eq_true rfl)⟩ (Nat.le_of_ble_eq_true rfl) rfl rfl (fun h2 q2 => ?_)
  obtain ⟨HM2, s2⟩ := q2
  have HC2 := HC1.mv s2 (by omega)
  refine g_icmp_eq 1122 dL_law_618 (by decide) (fun c618 => ?_) (fun z => absurd z (not_not_intro rfl))
  refine g_iinc (q := 0) (v := nI (i + 5)) (ls' := [(3, .int (nI (i + 5))), (0, .retAddr 0), (1, .ref 0), (2, .ref 98)]) dL_law_1122 rfl (incN _ 5) (Nat.le_of_ble_eq_true rfl) rfl ?_
  refine g_goto 18 dL_law_1125 (by decide) ?_
  exact K _ _ HC2 HM2 (ok_where ok (xs (i + 1)) (xs (i + 2)))

set_option maxRecDepth 100000 in
set_option maxHeartbeats 4000000 in
theorem lw_c17 {nm : String} {L : Nat} {xs : Nat → Int32} {h : List aC} {σ : Sg} (HC : RC h σ) (HM : RM h σ) (ok : okSg σ) {i : Nat} (hi : i + 5 ≤ L) (hL : L ≤ 2560) (K : ∀ h' σ', RC h' σ' → RM h' σ' → okSg σ' → G (mLn nm) room_1 (some (L, xs)) PL 120 7679 18 [(3, .int (nI ((i + 5)))), (0, .retAddr 0), (1, .ref 0), (2, .ref 98)] [] h') : G (mLn nm) room_1 (some (L, xs)) PL 120 7679 32 [(3, .int (nI i)), (0, .retAddr 0), (1, .ref 0), (2, .ref 98)] [.int (nI 17)] h := by
  obtain ⟨fs9, hM⟩ := HM.o
  refine g_tableIn 623 dL_law_32 (by decide +kernel) (by decide +kernel) (off := 591) (by decide +kernel) (by decide) ?_
  refine g_aload_n dL_law_623 2 rfl ?_
  refine g_aload_nS dL_law_624 1 rfl ?_
  refine g_iload_n dL_law_625 0 rfl ?_
  refine g_iconst (v := nI 1) dL_law_626 (by decide +kernel) ?_
  refine g_iaddN dL_law_627 ?_
  refine g_sald rfl dL_law_628 (vpin (by omega) (by omega)) (congrArg xs (cl_ (by omega))) ?_
  refine g_aload_nS dL_law_629 1 rfl ?_
  refine g_iload_n dL_law_630 0 rfl ?_
  refine g_iconst (v := nI 2) dL_law_631 (by decide +kernel) ?_
  refine g_iaddN dL_law_632 ?_
  refine g_sald rfl dL_law_633 (vpin (by omega) (by omega)) (congrArg xs (cl_ (by omega))) ?_
  refine g_callVq (st1 := [.int ((oStarters σ (xs (i + 1)) (xs (i + 2))).1)]) dL_law_634 (ev_x_starters HC ok (xs (i + 1)) (xs (i + 2))) oX8_starters wiX8_starters weX8_starters wmL_86 kX8 (HC.1) rfl ⟨(Nat.le_of_ble_eq_true rfl), (Nat.le_of_ble_eq_true rfl)⟩ ⟨(Nat.le_of_ble_eq_true rfl), (Nat.le_of_ble_eq_true rfl)⟩ (Nat.le_of_ble_eq_true rfl) rfl rfl (fun h1 q1 => ?_)
  obtain ⟨HC1, s1⟩ := q1
  have HM1 := HM.mv s1 (by omega)
  obtain ⟨fs8, hM1⟩ := HM1.o
  refine g_aload_n dL_law_637 3 rfl ?_
  refine g_aload_nS dL_law_638 1 rfl ?_
  refine g_iload_n dL_law_639 0 rfl ?_
  refine g_iconst (v := nI 1) dL_law_640 (by decide +kernel) ?_
  refine g_iaddN dL_law_641 ?_
  refine g_sald rfl dL_law_642 (vpin (by omega) (by omega)) (congrArg xs (cl_ (by omega))) ?_
  refine g_aload_nS dL_law_643 1 rfl ?_
  refine g_iload_n dL_law_644 0 rfl ?_
  refine g_iconst (v := nI 2) dL_law_645 (by decide +kernel) ?_
  refine g_iaddN dL_law_646 ?_
  refine g_sald rfl dL_law_647 (vpin (by omega) (by omega)) (congrArg xs (cl_ (by omega))) ?_
  refine g_callVq (st1 := [.int ((oStarters σ (xs (i + 1)) (xs (i + 2))).1), .int ((oStarters σ (xs (i + 1)) (xs (i + 2))).1)]) dL_law_648 (ev_y_starters HM1 ok (xs (i + 1)) (xs (i + 2))) oX9_starters wiX9_starters weX9_starters wmL_89 kX9 (hM1) rfl ⟨(Nat.le_of_ble_eq_true rfl), (Nat.le_of_ble_eq_true rfl)⟩ ⟨(Nat.le_of_ble_eq_true rfl), (Nat.le_of_ble_eq_true rfl)⟩ (Nat.le_of_ble_eq_true rfl) rfl rfl (fun h2 q2 => ?_)
  obtain ⟨HM2, s2⟩ := q2
  have HC2 := HC1.mv s2 (by omega)
  refine g_icmp_eq 1122 dL_law_651 (by decide) (fun c651 => ?_) (fun z => absurd z (not_not_intro rfl))
  refine g_iinc (q := 0) (v := nI (i + 5)) (ls' := [(3, .int (nI (i + 5))), (0, .retAddr 0), (1, .ref 0), (2, .ref 98)]) dL_law_1122 rfl (incN _ 5) (Nat.le_of_ble_eq_true rfl) rfl ?_
  refine g_goto 18 dL_law_1125 (by decide) ?_
  exact K _ _ HC2 HM2 (ok_starters ok (xs (i + 1)) (xs (i + 2)))

set_option maxRecDepth 100000 in
set_option maxHeartbeats 4000000 in
theorem lw_c18 {nm : String} {L : Nat} {xs : Nat → Int32} {h : List aC} {σ : Sg} (HC : RC h σ) (HM : RM h σ) (ok : okSg σ) {i : Nat} (hi : i + 5 ≤ L) (hL : L ≤ 2560) (K : ∀ h' σ', RC h' σ' → RM h' σ' → okSg σ' → G (mLn nm) room_1 (some (L, xs)) PL 120 7679 18 [(3, .int (nI ((i + 5)))), (0, .retAddr 0), (1, .ref 0), (2, .ref 98)] [] h') : G (mLn nm) room_1 (some (L, xs)) PL 120 7679 32 [(3, .int (nI i)), (0, .retAddr 0), (1, .ref 0), (2, .ref 98)] [.int (nI 18)] h := by
  obtain ⟨fs9, hM⟩ := HM.o
  refine g_tableIn 656 dL_law_32 (by decide +kernel) (by decide +kernel) (off := 624) (by decide +kernel) (by decide) ?_
  refine g_aload_n dL_law_656 2 rfl ?_
  refine g_aload_nS dL_law_657 1 rfl ?_
  refine g_iload_n dL_law_658 0 rfl ?_
  refine g_iconst (v := nI 1) dL_law_659 (by decide +kernel) ?_
  refine g_iaddN dL_law_660 ?_
  refine g_sald rfl dL_law_661 (vpin (by omega) (by omega)) (congrArg xs (cl_ (by omega))) ?_
  refine g_callVq (st1 := [.int ((oStrong σ (xs (i + 1))).1)]) dL_law_662 (ev_x_strong HC ok (xs (i + 1))) oX8_strong wiX8_strong weX8_strong wmL_90 kX8 (HC.1) rfl ⟨(Nat.le_of_ble_eq_true rfl), (Nat.le_of_ble_eq_true rfl)⟩ ⟨(Nat.le_of_ble_eq_true rfl), (Nat.le_of_ble_eq_true rfl)⟩ (Nat.le_of_ble_eq_true rfl) rfl rfl (fun h1 q1 => ?_)
  obtain ⟨HC1, s1⟩ := q1
  have HM1 := HM.mv s1 (by omega)
  obtain ⟨fs8, hM1⟩ := HM1.o
  refine g_aload_n dL_law_665 3 rfl ?_
  refine g_aload_nS dL_law_666 1 rfl ?_
  refine g_iload_n dL_law_667 0 rfl ?_
  refine g_iconst (v := nI 1) dL_law_668 (by decide +kernel) ?_
  refine g_iaddN dL_law_669 ?_
  refine g_sald rfl dL_law_670 (vpin (by omega) (by omega)) (congrArg xs (cl_ (by omega))) ?_
  refine g_callVq (st1 := [.int ((oStrong σ (xs (i + 1))).1), .int ((oStrong σ (xs (i + 1))).1)]) dL_law_671 (ev_y_strong HM1 ok (xs (i + 1))) oX9_strong wiX9_strong weX9_strong wmL_93 kX9 (hM1) rfl ⟨(Nat.le_of_ble_eq_true rfl), (Nat.le_of_ble_eq_true rfl)⟩ ⟨(Nat.le_of_ble_eq_true rfl), (Nat.le_of_ble_eq_true rfl)⟩ (Nat.le_of_ble_eq_true rfl) rfl rfl (fun h2 q2 => ?_)
  obtain ⟨HM2, s2⟩ := q2
  have HC2 := HC1.mv s2 (by omega)
  refine g_icmp_eq 1122 dL_law_674 (by decide) (fun c674 => ?_) (fun z => absurd z (not_not_intro rfl))
  refine g_iinc (q := 0) (v := nI (i + 5)) (ls' := [(3, .int (nI (i + 5))), (0, .retAddr 0), (1, .ref 0), (2, .ref 98)]) dL_law_1122 rfl (incN _ 5) (Nat.le_of_ble_eq_true rfl) rfl ?_
  refine g_goto 18 dL_law_1125 (by decide) ?_
  exact K _ _ HC2 HM2 (ok_strong ok (xs (i + 1)))

set_option maxRecDepth 100000 in
set_option maxHeartbeats 4000000 in
theorem lw_c19 {nm : String} {L : Nat} {xs : Nat → Int32} {h : List aC} {σ : Sg} (HC : RC h σ) (HM : RM h σ) (ok : okSg σ) {i : Nat} (hi : i + 5 ≤ L) (hL : L ≤ 2560) (K : ∀ h' σ', RC h' σ' → RM h' σ' → okSg σ' → G (mLn nm) room_1 (some (L, xs)) PL 120 7679 18 [(3, .int (nI ((i + 5)))), (0, .retAddr 0), (1, .ref 0), (2, .ref 98)] [] h') : G (mLn nm) room_1 (some (L, xs)) PL 120 7679 32 [(3, .int (nI i)), (0, .retAddr 0), (1, .ref 0), (2, .ref 98)] [.int (nI 19)] h := by
  obtain ⟨fs9, hM⟩ := HM.o
  refine g_tableIn 679 dL_law_32 (by decide +kernel) (by decide +kernel) (off := 647) (by decide +kernel) (by decide) ?_
  refine g_aload_n dL_law_679 2 rfl ?_
  refine g_aload_nS dL_law_680 1 rfl ?_
  refine g_iload_n dL_law_681 0 rfl ?_
  refine g_iconst (v := nI 1) dL_law_682 (by decide +kernel) ?_
  refine g_iaddN dL_law_683 ?_
  refine g_sald rfl dL_law_684 (vpin (by omega) (by omega)) (congrArg xs (cl_ (by omega))) ?_
  refine g_aload_nS dL_law_685 1 rfl ?_
  refine g_iload_n dL_law_686 0 rfl ?_
  refine g_iconst (v := nI 2) dL_law_687 (by decide +kernel) ?_
  refine g_iaddN dL_law_688 ?_
  refine g_sald rfl dL_law_689 (vpin (by omega) (by omega)) (congrArg xs (cl_ (by omega))) ?_
  refine g_callVq (st1 := [.int ((oAdders σ (xs (i + 1)) (xs (i + 2))).1)]) dL_law_690 (ev_x_adders HC ok (xs (i + 1)) (xs (i + 2))) oX8_adders wiX8_adders weX8_adders wmL_94 kX8 (HC.1) rfl ⟨(Nat.le_of_ble_eq_true rfl), (Nat.le_of_ble_eq_true rfl)⟩ ⟨(Nat.le_of_ble_eq_true rfl), (Nat.le_of_ble_eq_true rfl)⟩ (Nat.le_of_ble_eq_true rfl) rfl rfl (fun h1 q1 => ?_)
  obtain ⟨HC1, s1⟩ := q1
  have HM1 := HM.mv s1 (by omega)
  obtain ⟨fs8, hM1⟩ := HM1.o
  refine g_aload_n dL_law_693 3 rfl ?_
  refine g_aload_nS dL_law_694 1 rfl ?_
  refine g_iload_n dL_law_695 0 rfl ?_
  refine g_iconst (v := nI 1) dL_law_696 (by decide +kernel) ?_
  refine g_iaddN dL_law_697 ?_
  refine g_sald rfl dL_law_698 (vpin (by omega) (by omega)) (congrArg xs (cl_ (by omega))) ?_
  refine g_aload_nS dL_law_699 1 rfl ?_
  refine g_iload_n dL_law_700 0 rfl ?_
  refine g_iconst (v := nI 2) dL_law_701 (by decide +kernel) ?_
  refine g_iaddN dL_law_702 ?_
  refine g_sald rfl dL_law_703 (vpin (by omega) (by omega)) (congrArg xs (cl_ (by omega))) ?_
  refine g_callVq (st1 := [.int ((oAdders σ (xs (i + 1)) (xs (i + 2))).1), .int ((oAdders σ (xs (i + 1)) (xs (i + 2))).1)]) dL_law_704 (ev_y_adders HM1 ok (xs (i + 1)) (xs (i + 2))) oX9_adders wiX9_adders weX9_adders wmL_97 kX9 (hM1) rfl ⟨(Nat.le_of_ble_eq_true rfl), (Nat.le_of_ble_eq_true rfl)⟩ ⟨(Nat.le_of_ble_eq_true rfl), (Nat.le_of_ble_eq_true rfl)⟩ (Nat.le_of_ble_eq_true rfl) rfl rfl (fun h2 q2 => ?_)
  obtain ⟨HM2, s2⟩ := q2
  have HC2 := HC1.mv s2 (by omega)
  refine g_icmp_eq 1122 dL_law_707 (by decide) (fun c707 => ?_) (fun z => absurd z (not_not_intro rfl))
  refine g_iinc (q := 0) (v := nI (i + 5)) (ls' := [(3, .int (nI (i + 5))), (0, .retAddr 0), (1, .ref 0), (2, .ref 98)]) dL_law_1122 rfl (incN _ 5) (Nat.le_of_ble_eq_true rfl) rfl ?_
  refine g_goto 18 dL_law_1125 (by decide) ?_
  exact K _ _ HC2 HM2 (ok_adders ok (xs (i + 1)) (xs (i + 2)))

set_option maxRecDepth 100000 in
set_option maxHeartbeats 4000000 in
theorem lw_c20 {nm : String} {L : Nat} {xs : Nat → Int32} {h : List aC} {σ : Sg} (HC : RC h σ) (HM : RM h σ) (ok : okSg σ) {i : Nat} (hi : i + 5 ≤ L) (hL : L ≤ 2560) (K : ∀ h' σ', RC h' σ' → RM h' σ' → okSg σ' → G (mLn nm) room_1 (some (L, xs)) PL 120 7679 18 [(3, .int (nI ((i + 5)))), (0, .retAddr 0), (1, .ref 0), (2, .ref 98)] [] h') : G (mLn nm) room_1 (some (L, xs)) PL 120 7679 32 [(3, .int (nI i)), (0, .retAddr 0), (1, .ref 0), (2, .ref 98)] [.int (nI 20)] h := by
  obtain ⟨fs9, hM⟩ := HM.o
  refine g_tableIn 712 dL_law_32 (by decide +kernel) (by decide +kernel) (off := 680) (by decide +kernel) (by decide) ?_
  refine g_aload_n dL_law_712 2 rfl ?_
  refine g_aload_nS dL_law_713 1 rfl ?_
  refine g_iload_n dL_law_714 0 rfl ?_
  refine g_iconst (v := nI 1) dL_law_715 (by decide +kernel) ?_
  refine g_iaddN dL_law_716 ?_
  refine g_sald rfl dL_law_717 (vpin (by omega) (by omega)) (congrArg xs (cl_ (by omega))) ?_
  refine g_callVq (st1 := [.long ((oOdds σ (xs (i + 1))).1)]) dL_law_718 (ev_x_odds HC ok (xs (i + 1))) oX8_odds wiX8_odds weX8_odds wmL_98 kX8 (HC.1) rfl ⟨(Nat.le_of_ble_eq_true rfl), (Nat.le_of_ble_eq_true rfl)⟩ ⟨(Nat.le_of_ble_eq_true rfl), (Nat.le_of_ble_eq_true rfl)⟩ (Nat.le_of_ble_eq_true rfl) rfl rfl (fun h1 q1 => ?_)
  obtain ⟨HC1, s1⟩ := q1
  have HM1 := HM.mv s1 (by omega)
  obtain ⟨fs8, hM1⟩ := HM1.o
  refine g_aload_n dL_law_721 3 rfl ?_
  refine g_aload_nS dL_law_722 1 rfl ?_
  refine g_iload_n dL_law_723 0 rfl ?_
  refine g_iconst (v := nI 1) dL_law_724 (by decide +kernel) ?_
  refine g_iaddN dL_law_725 ?_
  refine g_sald rfl dL_law_726 (vpin (by omega) (by omega)) (congrArg xs (cl_ (by omega))) ?_
  refine g_callVq (st1 := [.long ((oOdds σ (xs (i + 1))).1), .long ((oOdds σ (xs (i + 1))).1)]) dL_law_727 (ev_y_odds HM1 ok (xs (i + 1))) oX9_odds wiX9_odds weX9_odds wmL_102 kX9 (hM1) rfl ⟨(Nat.le_of_ble_eq_true rfl), (Nat.le_of_ble_eq_true rfl)⟩ ⟨(Nat.le_of_ble_eq_true rfl), (Nat.le_of_ble_eq_true rfl)⟩ (Nat.le_of_ble_eq_true rfl) rfl rfl (fun h2 q2 => ?_)
  obtain ⟨HM2, s2⟩ := q2
  have HC2 := HC1.mv s2 (by omega)
  refine g_lcmp (v := nI 0) dL_law_730 (lg_self _) ?_
  refine g_if_eqN 1122 dL_law_731 (by decide) (by omega) (fun c731 => ?_) (fun z => absurd z (by omega))
  refine g_iinc (q := 0) (v := nI (i + 5)) (ls' := [(3, .int (nI (i + 5))), (0, .retAddr 0), (1, .ref 0), (2, .ref 98)]) dL_law_1122 rfl (incN _ 5) (Nat.le_of_ble_eq_true rfl) rfl ?_
  refine g_goto 18 dL_law_1125 (by decide) ?_
  exact K _ _ HC2 HM2 (ok_odds ok (xs (i + 1)))

set_option maxRecDepth 100000 in
set_option maxHeartbeats 4000000 in
theorem lw_c21 {nm : String} {L : Nat} {xs : Nat → Int32} {h : List aC} {σ : Sg} (HC : RC h σ) (HM : RM h σ) (ok : okSg σ) {i : Nat} (hi : i + 5 ≤ L) (hL : L ≤ 2560) (K : ∀ h' σ', RC h' σ' → RM h' σ' → okSg σ' → G (mLn nm) room_1 (some (L, xs)) PL 120 7679 18 [(3, .int (nI ((i + 5)))), (0, .retAddr 0), (1, .ref 0), (2, .ref 98)] [] h') : G (mLn nm) room_1 (some (L, xs)) PL 120 7679 32 [(3, .int (nI i)), (0, .retAddr 0), (1, .ref 0), (2, .ref 98)] [.int (nI 21)] h := by
  obtain ⟨fs9, hM⟩ := HM.o
  refine g_tableIn 736 dL_law_32 (by decide +kernel) (by decide +kernel) (off := 704) (by decide +kernel) (by decide) ?_
  refine g_aload_n dL_law_736 2 rfl ?_
  refine g_aload_nS dL_law_737 1 rfl ?_
  refine g_iload_n dL_law_738 0 rfl ?_
  refine g_iconst (v := nI 1) dL_law_739 (by decide +kernel) ?_
  refine g_iaddN dL_law_740 ?_
  refine g_sald rfl dL_law_741 (vpin (by omega) (by omega)) (congrArg xs (cl_ (by omega))) ?_
  refine g_aload_nS dL_law_742 1 rfl ?_
  refine g_iload_n dL_law_743 0 rfl ?_
  refine g_iconst (v := nI 2) dL_law_744 (by decide +kernel) ?_
  refine g_iaddN dL_law_745 ?_
  refine g_sald rfl dL_law_746 (vpin (by omega) (by omega)) (congrArg xs (cl_ (by omega))) ?_
  refine g_aload_nS dL_law_747 1 rfl ?_
  refine g_iload_n dL_law_748 0 rfl ?_
  refine g_iconst (v := nI 3) dL_law_749 (by decide +kernel) ?_
  refine g_iaddN dL_law_750 ?_
  refine g_sald rfl dL_law_751 (vpin (by omega) (by omega)) (congrArg xs (cl_ (by omega))) ?_
  refine g_callVq (st1 := [.int ((oLots σ (xs (i + 1)) (xs (i + 2)) (xs (i + 3))).1)]) dL_law_752 (ev_x_lots HC ok (xs (i + 1)) (xs (i + 2)) (xs (i + 3))) oX8_lots wiX8_lots weX8_lots wmL_103 kX8 (HC.1) rfl ⟨(Nat.le_of_ble_eq_true rfl), (Nat.le_of_ble_eq_true rfl)⟩ ⟨(Nat.le_of_ble_eq_true rfl), (Nat.le_of_ble_eq_true rfl)⟩ (Nat.le_of_ble_eq_true rfl) rfl rfl (fun h1 q1 => ?_)
  obtain ⟨HC1, s1⟩ := q1
  have HM1 := HM.mv s1 (by omega)
  obtain ⟨fs8, hM1⟩ := HM1.o
  refine g_aload_n dL_law_755 3 rfl ?_
  refine g_aload_nS dL_law_756 1 rfl ?_
  refine g_iload_n dL_law_757 0 rfl ?_
  refine g_iconst (v := nI 1) dL_law_758 (by decide +kernel) ?_
  refine g_iaddN dL_law_759 ?_
  refine g_sald rfl dL_law_760 (vpin (by omega) (by omega)) (congrArg xs (cl_ (by omega))) ?_
  refine g_aload_nS dL_law_761 1 rfl ?_
  refine g_iload_n dL_law_762 0 rfl ?_
  refine g_iconst (v := nI 2) dL_law_763 (by decide +kernel) ?_
  refine g_iaddN dL_law_764 ?_
  refine g_sald rfl dL_law_765 (vpin (by omega) (by omega)) (congrArg xs (cl_ (by omega))) ?_
  refine g_aload_nS dL_law_766 1 rfl ?_
  refine g_iload_n dL_law_767 0 rfl ?_
  refine g_iconst (v := nI 3) dL_law_768 (by decide +kernel) ?_
  refine g_iaddN dL_law_769 ?_
  refine g_sald rfl dL_law_770 (vpin (by omega) (by omega)) (congrArg xs (cl_ (by omega))) ?_
  refine g_callVq (st1 := [.int ((oLots σ (xs (i + 1)) (xs (i + 2)) (xs (i + 3))).1), .int ((oLots σ (xs (i + 1)) (xs (i + 2)) (xs (i + 3))).1)]) dL_law_771 (ev_y_lots HM1 ok (xs (i + 1)) (xs (i + 2)) (xs (i + 3))) oX9_lots wiX9_lots weX9_lots wmL_106 kX9 (hM1) rfl ⟨(Nat.le_of_ble_eq_true rfl), (Nat.le_of_ble_eq_true rfl)⟩ ⟨(Nat.le_of_ble_eq_true rfl), (Nat.le_of_ble_eq_true rfl)⟩ (Nat.le_of_ble_eq_true rfl) rfl rfl (fun h2 q2 => ?_)
  obtain ⟨HM2, s2⟩ := q2
  have HC2 := HC1.mv s2 (by omega)
  refine g_icmp_eq 1122 dL_law_774 (by decide) (fun c774 => ?_) (fun z => absurd z (not_not_intro rfl))
  refine g_iinc (q := 0) (v := nI (i + 5)) (ls' := [(3, .int (nI (i + 5))), (0, .retAddr 0), (1, .ref 0), (2, .ref 98)]) dL_law_1122 rfl (incN _ 5) (Nat.le_of_ble_eq_true rfl) rfl ?_
  refine g_goto 18 dL_law_1125 (by decide) ?_
  exact K _ _ HC2 HM2 (ok_lots ok (xs (i + 1)) (xs (i + 2)) (xs (i + 3)))

set_option maxRecDepth 100000 in
set_option maxHeartbeats 4000000 in
theorem lw_c22 {nm : String} {L : Nat} {xs : Nat → Int32} {h : List aC} {σ : Sg} (HC : RC h σ) (HM : RM h σ) (ok : okSg σ) {i : Nat} (hi : i + 5 ≤ L) (hL : L ≤ 2560) (K : ∀ h' σ', RC h' σ' → RM h' σ' → okSg σ' → G (mLn nm) room_1 (some (L, xs)) PL 120 7679 18 [(3, .int (nI ((i + 5)))), (0, .retAddr 0), (1, .ref 0), (2, .ref 98)] [] h') : G (mLn nm) room_1 (some (L, xs)) PL 120 7679 32 [(3, .int (nI i)), (0, .retAddr 0), (1, .ref 0), (2, .ref 98)] [.int (nI 22)] h := by
  obtain ⟨fs9, hM⟩ := HM.o
  refine g_tableIn 779 dL_law_32 (by decide +kernel) (by decide +kernel) (off := 747) (by decide +kernel) (by decide) ?_
  refine g_aload_n dL_law_779 2 rfl ?_
  refine g_aload_nS dL_law_780 1 rfl ?_
  refine g_iload_n dL_law_781 0 rfl ?_
  refine g_iconst (v := nI 1) dL_law_782 (by decide +kernel) ?_
  refine g_iaddN dL_law_783 ?_
  refine g_sald rfl dL_law_784 (vpin (by omega) (by omega)) (congrArg xs (cl_ (by omega))) ?_
  refine g_aload_nS dL_law_785 1 rfl ?_
  refine g_iload_n dL_law_786 0 rfl ?_
  refine g_iconst (v := nI 2) dL_law_787 (by decide +kernel) ?_
  refine g_iaddN dL_law_788 ?_
  refine g_sald rfl dL_law_789 (vpin (by omega) (by omega)) (congrArg xs (cl_ (by omega))) ?_
  refine g_callVq (st1 := [.int ((oTurn σ (xs (i + 1)) (xs (i + 2))).1)]) dL_law_790 (ev_x_turn HC ok (xs (i + 1)) (xs (i + 2))) oX8_turn wiX8_turn weX8_turn wmL_107 kX8 (HC.1) rfl ⟨(Nat.le_of_ble_eq_true rfl), (Nat.le_of_ble_eq_true rfl)⟩ ⟨(Nat.le_of_ble_eq_true rfl), (Nat.le_of_ble_eq_true rfl)⟩ (Nat.le_of_ble_eq_true rfl) rfl rfl (fun h1 q1 => ?_)
  obtain ⟨HC1, s1⟩ := q1
  have HM1 := HM.mv s1 (by omega)
  obtain ⟨fs8, hM1⟩ := HM1.o
  refine g_aload_n dL_law_793 3 rfl ?_
  refine g_aload_nS dL_law_794 1 rfl ?_
  refine g_iload_n dL_law_795 0 rfl ?_
  refine g_iconst (v := nI 1) dL_law_796 (by decide +kernel) ?_
  refine g_iaddN dL_law_797 ?_
  refine g_sald rfl dL_law_798 (vpin (by omega) (by omega)) (congrArg xs (cl_ (by omega))) ?_
  refine g_aload_nS dL_law_799 1 rfl ?_
  refine g_iload_n dL_law_800 0 rfl ?_
  refine g_iconst (v := nI 2) dL_law_801 (by decide +kernel) ?_
  refine g_iaddN dL_law_802 ?_
  refine g_sald rfl dL_law_803 (vpin (by omega) (by omega)) (congrArg xs (cl_ (by omega))) ?_
  refine g_callVq (st1 := [.int ((oTurn σ (xs (i + 1)) (xs (i + 2))).1), .int ((oTurn σ (xs (i + 1)) (xs (i + 2))).1)]) dL_law_804 (ev_y_turn HM1 ok (xs (i + 1)) (xs (i + 2))) oX9_turn wiX9_turn weX9_turn wmL_110 kX9 (hM1) rfl ⟨(Nat.le_of_ble_eq_true rfl), (Nat.le_of_ble_eq_true rfl)⟩ ⟨(Nat.le_of_ble_eq_true rfl), (Nat.le_of_ble_eq_true rfl)⟩ (Nat.le_of_ble_eq_true rfl) rfl rfl (fun h2 q2 => ?_)
  obtain ⟨HM2, s2⟩ := q2
  have HC2 := HC1.mv s2 (by omega)
  refine g_icmp_eq 1122 dL_law_807 (by decide) (fun c807 => ?_) (fun z => absurd z (not_not_intro rfl))
  refine g_iinc (q := 0) (v := nI (i + 5)) (ls' := [(3, .int (nI (i + 5))), (0, .retAddr 0), (1, .ref 0), (2, .ref 98)]) dL_law_1122 rfl (incN _ 5) (Nat.le_of_ble_eq_true rfl) rfl ?_
  refine g_goto 18 dL_law_1125 (by decide) ?_
  exact K _ _ HC2 HM2 (ok_turn ok (xs (i + 1)) (xs (i + 2)))

set_option maxRecDepth 100000 in
set_option maxHeartbeats 4000000 in
theorem lw_c23 {nm : String} {L : Nat} {xs : Nat → Int32} {h : List aC} {σ : Sg} (HC : RC h σ) (HM : RM h σ) (ok : okSg σ) {i : Nat} (hi : i + 5 ≤ L) (hL : L ≤ 2560) (K : ∀ h' σ', RC h' σ' → RM h' σ' → okSg σ' → G (mLn nm) room_1 (some (L, xs)) PL 120 7679 18 [(3, .int (nI ((i + 5)))), (0, .retAddr 0), (1, .ref 0), (2, .ref 98)] [] h') : G (mLn nm) room_1 (some (L, xs)) PL 120 7679 32 [(3, .int (nI i)), (0, .retAddr 0), (1, .ref 0), (2, .ref 98)] [.int (nI 23)] h := by
  obtain ⟨fs9, hM⟩ := HM.o
  refine g_tableIn 812 dL_law_32 (by decide +kernel) (by decide +kernel) (off := 780) (by decide +kernel) (by decide) ?_
  refine g_aload_n dL_law_812 2 rfl ?_
  refine g_callVq (st1 := [.int ((oStill σ).1)]) dL_law_813 (ev_x_still HC ok ) oX8_still wiX8_still weX8_still wmL_111 kX8 (HC.1) rfl ⟨(Nat.le_of_ble_eq_true rfl), (Nat.le_of_ble_eq_true rfl)⟩ ⟨(Nat.le_of_ble_eq_true rfl), (Nat.le_of_ble_eq_true rfl)⟩ (Nat.le_of_ble_eq_true rfl) rfl rfl (fun h1 q1 => ?_)
  obtain ⟨HC1, s1⟩ := q1
  have HM1 := HM.mv s1 (by omega)
  obtain ⟨fs8, hM1⟩ := HM1.o
  refine g_aload_n dL_law_816 3 rfl ?_
  refine g_callVq (st1 := [.int ((oStill σ).1), .int ((oStill σ).1)]) dL_law_817 (ev_y_still HM1 ok ) oX9_still wiX9_still weX9_still wmL_114 kX9 (hM1) rfl ⟨(Nat.le_of_ble_eq_true rfl), (Nat.le_of_ble_eq_true rfl)⟩ ⟨(Nat.le_of_ble_eq_true rfl), (Nat.le_of_ble_eq_true rfl)⟩ (Nat.le_of_ble_eq_true rfl) rfl rfl (fun h2 q2 => ?_)
  obtain ⟨HM2, s2⟩ := q2
  have HC2 := HC1.mv s2 (by omega)
  refine g_icmp_eq 1122 dL_law_820 (by decide) (fun c820 => ?_) (fun z => absurd z (not_not_intro rfl))
  refine g_iinc (q := 0) (v := nI (i + 5)) (ls' := [(3, .int (nI (i + 5))), (0, .retAddr 0), (1, .ref 0), (2, .ref 98)]) dL_law_1122 rfl (incN _ 5) (Nat.le_of_ble_eq_true rfl) rfl ?_
  refine g_goto 18 dL_law_1125 (by decide) ?_
  exact K _ _ HC2 HM2 (ok_still ok )

set_option maxRecDepth 100000 in
set_option maxHeartbeats 4000000 in
theorem lw_c24 {nm : String} {L : Nat} {xs : Nat → Int32} {h : List aC} {σ : Sg} (HC : RC h σ) (HM : RM h σ) (ok : okSg σ) {i : Nat} (hi : i + 5 ≤ L) (hL : L ≤ 2560) (K : ∀ h' σ', RC h' σ' → RM h' σ' → okSg σ' → G (mLn nm) room_1 (some (L, xs)) PL 120 7679 18 [(3, .int (nI ((i + 5)))), (0, .retAddr 0), (1, .ref 0), (2, .ref 98)] [] h') : G (mLn nm) room_1 (some (L, xs)) PL 120 7679 32 [(3, .int (nI i)), (0, .retAddr 0), (1, .ref 0), (2, .ref 98)] [.int (nI 24)] h := by
  obtain ⟨fs9, hM⟩ := HM.o
  refine g_tableIn 825 dL_law_32 (by decide +kernel) (by decide +kernel) (off := 793) (by decide +kernel) (by decide) ?_
  refine g_aload_n dL_law_825 2 rfl ?_
  refine g_aload_nS dL_law_826 1 rfl ?_
  refine g_iload_n dL_law_827 0 rfl ?_
  refine g_iconst (v := nI 1) dL_law_828 (by decide +kernel) ?_
  refine g_iaddN dL_law_829 ?_
  refine g_sald rfl dL_law_830 (vpin (by omega) (by omega)) (congrArg xs (cl_ (by omega))) ?_
  refine g_aload_nS dL_law_831 1 rfl ?_
  refine g_iload_n dL_law_832 0 rfl ?_
  refine g_iconst (v := nI 2) dL_law_833 (by decide +kernel) ?_
  refine g_iaddN dL_law_834 ?_
  refine g_sald rfl dL_law_835 (vpin (by omega) (by omega)) (congrArg xs (cl_ (by omega))) ?_
  refine g_callVq (st1 := [.int ((oTurned σ (xs (i + 1)) (xs (i + 2))).1)]) dL_law_836 (ev_x_turned HC ok (xs (i + 1)) (xs (i + 2))) oX8_turned wiX8_turned weX8_turned wmL_115 kX8 (HC.1) rfl ⟨(Nat.le_of_ble_eq_true rfl), (Nat.le_of_ble_eq_true rfl)⟩ ⟨(Nat.le_of_ble_eq_true rfl), (Nat.le_of_ble_eq_true rfl)⟩ (Nat.le_of_ble_eq_true rfl) rfl rfl (fun h1 q1 => ?_)
  obtain ⟨HC1, s1⟩ := q1
  have HM1 := HM.mv s1 (by omega)
  obtain ⟨fs8, hM1⟩ := HM1.o
  refine g_aload_n dL_law_839 3 rfl ?_
  refine g_aload_nS dL_law_840 1 rfl ?_
  refine g_iload_n dL_law_841 0 rfl ?_
  refine g_iconst (v := nI 1) dL_law_842 (by decide +kernel) ?_
  refine g_iaddN dL_law_843 ?_
  refine g_sald rfl dL_law_844 (vpin (by omega) (by omega)) (congrArg xs (cl_ (by omega))) ?_
  refine g_aload_nS dL_law_845 1 rfl ?_
  refine g_iload_n dL_law_846 0 rfl ?_
  refine g_iconst (v := nI 2) dL_law_847 (by decide +kernel) ?_
  refine g_iaddN dL_law_848 ?_
  refine g_sald rfl dL_law_849 (vpin (by omega) (by omega)) (congrArg xs (cl_ (by omega))) ?_
  refine g_callVq (st1 := [.int ((oTurned σ (xs (i + 1)) (xs (i + 2))).1), .int ((oTurned σ (xs (i + 1)) (xs (i + 2))).1)]) dL_law_850 (ev_y_turned HM1 ok (xs (i + 1)) (xs (i + 2))) oX9_turned wiX9_turned weX9_turned wmL_118 kX9 (hM1) rfl ⟨(Nat.le_of_ble_eq_true rfl), (Nat.le_of_ble_eq_true rfl)⟩ ⟨(Nat.le_of_ble_eq_true rfl), (Nat.le_of_ble_eq_true rfl)⟩ (Nat.le_of_ble_eq_true rfl) rfl rfl (fun h2 q2 => ?_)
  obtain ⟨HM2, s2⟩ := q2
  have HC2 := HC1.mv s2 (by omega)
  refine g_icmp_eq 1122 dL_law_853 (by decide) (fun c853 => ?_) (fun z => absurd z (not_not_intro rfl))
  refine g_iinc (q := 0) (v := nI (i + 5)) (ls' := [(3, .int (nI (i + 5))), (0, .retAddr 0), (1, .ref 0), (2, .ref 98)]) dL_law_1122 rfl (incN _ 5) (Nat.le_of_ble_eq_true rfl) rfl ?_
  refine g_goto 18 dL_law_1125 (by decide) ?_
  exact K _ _ HC2 HM2 (ok_turned ok (xs (i + 1)) (xs (i + 2)))

set_option maxRecDepth 100000 in
set_option maxHeartbeats 4000000 in
theorem lw_c25 {nm : String} {L : Nat} {xs : Nat → Int32} {h : List aC} {σ : Sg} (HC : RC h σ) (HM : RM h σ) (ok : okSg σ) {i : Nat} (hi : i + 5 ≤ L) (hL : L ≤ 2560) (K : ∀ h' σ', RC h' σ' → RM h' σ' → okSg σ' → G (mLn nm) room_1 (some (L, xs)) PL 120 7679 18 [(3, .int (nI ((i + 5)))), (0, .retAddr 0), (1, .ref 0), (2, .ref 98)] [] h') : G (mLn nm) room_1 (some (L, xs)) PL 120 7679 32 [(3, .int (nI i)), (0, .retAddr 0), (1, .ref 0), (2, .ref 98)] [.int (nI 25)] h := by
  obtain ⟨fs9, hM⟩ := HM.o
  refine g_tableIn 858 dL_law_32 (by decide +kernel) (by decide +kernel) (off := 826) (by decide +kernel) (by decide) ?_
  refine g_aload_n dL_law_858 2 rfl ?_
  refine g_callVq (st1 := [.int ((oTurns σ).1)]) dL_law_859 (ev_x_turns HC ok ) oX8_turns wiX8_turns weX8_turns wmL_119 kX8 (HC.1) rfl ⟨(Nat.le_of_ble_eq_true rfl), (Nat.le_of_ble_eq_true rfl)⟩ ⟨(Nat.le_of_ble_eq_true rfl), (Nat.le_of_ble_eq_true rfl)⟩ (Nat.le_of_ble_eq_true rfl) rfl rfl (fun h1 q1 => ?_)
  obtain ⟨HC1, s1⟩ := q1
  have HM1 := HM.mv s1 (by omega)
  obtain ⟨fs8, hM1⟩ := HM1.o
  refine g_aload_n dL_law_862 3 rfl ?_
  refine g_callVq (st1 := [.int ((oTurns σ).1), .int ((oTurns σ).1)]) dL_law_863 (ev_y_turns HM1 ok ) oX9_turns wiX9_turns weX9_turns wmL_122 kX9 (hM1) rfl ⟨(Nat.le_of_ble_eq_true rfl), (Nat.le_of_ble_eq_true rfl)⟩ ⟨(Nat.le_of_ble_eq_true rfl), (Nat.le_of_ble_eq_true rfl)⟩ (Nat.le_of_ble_eq_true rfl) rfl rfl (fun h2 q2 => ?_)
  obtain ⟨HM2, s2⟩ := q2
  have HC2 := HC1.mv s2 (by omega)
  refine g_icmp_eq 1122 dL_law_866 (by decide) (fun c866 => ?_) (fun z => absurd z (not_not_intro rfl))
  refine g_iinc (q := 0) (v := nI (i + 5)) (ls' := [(3, .int (nI (i + 5))), (0, .retAddr 0), (1, .ref 0), (2, .ref 98)]) dL_law_1122 rfl (incN _ 5) (Nat.le_of_ble_eq_true rfl) rfl ?_
  refine g_goto 18 dL_law_1125 (by decide) ?_
  exact K _ _ HC2 HM2 (ok_turns ok )

set_option maxRecDepth 100000 in
set_option maxHeartbeats 4000000 in
theorem lw_c26 {nm : String} {L : Nat} {xs : Nat → Int32} {h : List aC} {σ : Sg} (HC : RC h σ) (HM : RM h σ) (ok : okSg σ) {i : Nat} (hi : i + 5 ≤ L) (hL : L ≤ 2560) (K : ∀ h' σ', RC h' σ' → RM h' σ' → okSg σ' → G (mLn nm) room_1 (some (L, xs)) PL 120 7679 18 [(3, .int (nI ((i + 5)))), (0, .retAddr 0), (1, .ref 0), (2, .ref 98)] [] h') : G (mLn nm) room_1 (some (L, xs)) PL 120 7679 32 [(3, .int (nI i)), (0, .retAddr 0), (1, .ref 0), (2, .ref 98)] [.int (nI 26)] h := by
  obtain ⟨fs9, hM⟩ := HM.o
  refine g_tableIn 871 dL_law_32 (by decide +kernel) (by decide +kernel) (off := 839) (by decide +kernel) (by decide) ?_
  refine g_aload_n dL_law_871 2 rfl ?_
  refine g_aload_nS dL_law_872 1 rfl ?_
  refine g_iload_n dL_law_873 0 rfl ?_
  refine g_iconst (v := nI 1) dL_law_874 (by decide +kernel) ?_
  refine g_iaddN dL_law_875 ?_
  refine g_sald rfl dL_law_876 (vpin (by omega) (by omega)) (congrArg xs (cl_ (by omega))) ?_
  refine g_aload_nS dL_law_877 1 rfl ?_
  refine g_iload_n dL_law_878 0 rfl ?_
  refine g_iconst (v := nI 2) dL_law_879 (by decide +kernel) ?_
  refine g_iaddN dL_law_880 ?_
  refine g_sald rfl dL_law_881 (vpin (by omega) (by omega)) (congrArg xs (cl_ (by omega))) ?_
  refine g_callVq (st1 := [.int ((oList σ (xs (i + 1)) (xs (i + 2))).1)]) dL_law_882 (ev_x_list HC ok (xs (i + 1)) (xs (i + 2))) oX8_list wiX8_list weX8_list wmL_123 kX8 (HC.1) rfl ⟨(Nat.le_of_ble_eq_true rfl), (Nat.le_of_ble_eq_true rfl)⟩ ⟨(Nat.le_of_ble_eq_true rfl), (Nat.le_of_ble_eq_true rfl)⟩ (Nat.le_of_ble_eq_true rfl) rfl rfl (fun h1 q1 => ?_)
  obtain ⟨HC1, s1⟩ := q1
  have HM1 := HM.mv s1 (by omega)
  obtain ⟨fs8, hM1⟩ := HM1.o
  refine g_aload_n dL_law_885 3 rfl ?_
  refine g_aload_nS dL_law_886 1 rfl ?_
  refine g_iload_n dL_law_887 0 rfl ?_
  refine g_iconst (v := nI 1) dL_law_888 (by decide +kernel) ?_
  refine g_iaddN dL_law_889 ?_
  refine g_sald rfl dL_law_890 (vpin (by omega) (by omega)) (congrArg xs (cl_ (by omega))) ?_
  refine g_aload_nS dL_law_891 1 rfl ?_
  refine g_iload_n dL_law_892 0 rfl ?_
  refine g_iconst (v := nI 2) dL_law_893 (by decide +kernel) ?_
  refine g_iaddN dL_law_894 ?_
  refine g_sald rfl dL_law_895 (vpin (by omega) (by omega)) (congrArg xs (cl_ (by omega))) ?_
  refine g_callVq (st1 := [.int ((oList σ (xs (i + 1)) (xs (i + 2))).1), .int ((oList σ (xs (i + 1)) (xs (i + 2))).1)]) dL_law_896 (ev_y_list HM1 ok (xs (i + 1)) (xs (i + 2))) oX9_list wiX9_list weX9_list wmL_126 kX9 (hM1) rfl ⟨(Nat.le_of_ble_eq_true rfl), (Nat.le_of_ble_eq_true rfl)⟩ ⟨(Nat.le_of_ble_eq_true rfl), (Nat.le_of_ble_eq_true rfl)⟩ (Nat.le_of_ble_eq_true rfl) rfl rfl (fun h2 q2 => ?_)
  obtain ⟨HM2, s2⟩ := q2
  have HC2 := HC1.mv s2 (by omega)
  refine g_icmp_eq 1122 dL_law_899 (by decide) (fun c899 => ?_) (fun z => absurd z (not_not_intro rfl))
  refine g_iinc (q := 0) (v := nI (i + 5)) (ls' := [(3, .int (nI (i + 5))), (0, .retAddr 0), (1, .ref 0), (2, .ref 98)]) dL_law_1122 rfl (incN _ 5) (Nat.le_of_ble_eq_true rfl) rfl ?_
  refine g_goto 18 dL_law_1125 (by decide) ?_
  exact K _ _ HC2 HM2 (ok_list ok (xs (i + 1)) (xs (i + 2)))

set_option maxRecDepth 100000 in
set_option maxHeartbeats 4000000 in
theorem lw_c27 {nm : String} {L : Nat} {xs : Nat → Int32} {h : List aC} {σ : Sg} (HC : RC h σ) (HM : RM h σ) (ok : okSg σ) {i : Nat} (hi : i + 5 ≤ L) (hL : L ≤ 2560) (K : ∀ h' σ', RC h' σ' → RM h' σ' → okSg σ' → G (mLn nm) room_1 (some (L, xs)) PL 120 7679 18 [(3, .int (nI ((i + 5)))), (0, .retAddr 0), (1, .ref 0), (2, .ref 98)] [] h') : G (mLn nm) room_1 (some (L, xs)) PL 120 7679 32 [(3, .int (nI i)), (0, .retAddr 0), (1, .ref 0), (2, .ref 98)] [.int (nI 27)] h := by
  obtain ⟨fs9, hM⟩ := HM.o
  refine g_tableIn 904 dL_law_32 (by decide +kernel) (by decide +kernel) (off := 872) (by decide +kernel) (by decide) ?_
  refine g_aload_n dL_law_904 2 rfl ?_
  refine g_aload_nS dL_law_905 1 rfl ?_
  refine g_iload_n dL_law_906 0 rfl ?_
  refine g_iconst (v := nI 1) dL_law_907 (by decide +kernel) ?_
  refine g_iaddN dL_law_908 ?_
  refine g_sald rfl dL_law_909 (vpin (by omega) (by omega)) (congrArg xs (cl_ (by omega))) ?_
  refine g_aload_nS dL_law_910 1 rfl ?_
  refine g_iload_n dL_law_911 0 rfl ?_
  refine g_iconst (v := nI 2) dL_law_912 (by decide +kernel) ?_
  refine g_iaddN dL_law_913 ?_
  refine g_sald rfl dL_law_914 (vpin (by omega) (by omega)) (congrArg xs (cl_ (by omega))) ?_
  refine g_aload_nS dL_law_915 1 rfl ?_
  refine g_iload_n dL_law_916 0 rfl ?_
  refine g_iconst (v := nI 3) dL_law_917 (by decide +kernel) ?_
  refine g_iaddN dL_law_918 ?_
  refine g_sald rfl dL_law_919 (vpin (by omega) (by omega)) (congrArg xs (cl_ (by omega))) ?_
  refine g_callVq (st1 := [.int ((oPut σ (xs (i + 1)) (xs (i + 2)) (xs (i + 3))).1)]) dL_law_920 (ev_x_put HC ok (xs (i + 1)) (xs (i + 2)) (xs (i + 3))) oX8_put wiX8_put weX8_put wmL_127 kX8 (HC.1) rfl ⟨(Nat.le_of_ble_eq_true rfl), (Nat.le_of_ble_eq_true rfl)⟩ ⟨(Nat.le_of_ble_eq_true rfl), (Nat.le_of_ble_eq_true rfl)⟩ (Nat.le_of_ble_eq_true rfl) rfl rfl (fun h1 q1 => ?_)
  obtain ⟨HC1, s1⟩ := q1
  have HM1 := HM.mv s1 (by omega)
  obtain ⟨fs8, hM1⟩ := HM1.o
  refine g_aload_n dL_law_923 3 rfl ?_
  refine g_aload_nS dL_law_924 1 rfl ?_
  refine g_iload_n dL_law_925 0 rfl ?_
  refine g_iconst (v := nI 1) dL_law_926 (by decide +kernel) ?_
  refine g_iaddN dL_law_927 ?_
  refine g_sald rfl dL_law_928 (vpin (by omega) (by omega)) (congrArg xs (cl_ (by omega))) ?_
  refine g_aload_nS dL_law_929 1 rfl ?_
  refine g_iload_n dL_law_930 0 rfl ?_
  refine g_iconst (v := nI 2) dL_law_931 (by decide +kernel) ?_
  refine g_iaddN dL_law_932 ?_
  refine g_sald rfl dL_law_933 (vpin (by omega) (by omega)) (congrArg xs (cl_ (by omega))) ?_
  refine g_aload_nS dL_law_934 1 rfl ?_
  refine g_iload_n dL_law_935 0 rfl ?_
  refine g_iconst (v := nI 3) dL_law_936 (by decide +kernel) ?_
  refine g_iaddN dL_law_937 ?_
  refine g_sald rfl dL_law_938 (vpin (by omega) (by omega)) (congrArg xs (cl_ (by omega))) ?_
  refine g_callVq (st1 := [.int ((oPut σ (xs (i + 1)) (xs (i + 2)) (xs (i + 3))).1), .int ((oPut σ (xs (i + 1)) (xs (i + 2)) (xs (i + 3))).1)]) dL_law_939 (ev_y_put HM1 ok (fun y hy => (HC.2.2.2.2.2.1.2.2.1 y hy).2) (xs (i + 1)) (xs (i + 2)) (xs (i + 3))) oX9_put wiX9_put weX9_put wmL_130 kX9 (hM1) rfl ⟨(Nat.le_of_ble_eq_true rfl), (Nat.le_of_ble_eq_true rfl)⟩ ⟨(Nat.le_of_ble_eq_true rfl), (Nat.le_of_ble_eq_true rfl)⟩ (Nat.le_of_ble_eq_true rfl) rfl rfl (fun h2 q2 => ?_)
  obtain ⟨HM2, s2⟩ := q2
  have HC2 := HC1.mv s2 (by omega)
  refine g_icmp_eq 1122 dL_law_942 (by decide) (fun c942 => ?_) (fun z => absurd z (not_not_intro rfl))
  refine g_iinc (q := 0) (v := nI (i + 5)) (ls' := [(3, .int (nI (i + 5))), (0, .retAddr 0), (1, .ref 0), (2, .ref 98)]) dL_law_1122 rfl (incN _ 5) (Nat.le_of_ble_eq_true rfl) rfl ?_
  refine g_goto 18 dL_law_1125 (by decide) ?_
  exact K _ _ HC2 HM2 (ok_put ok (xs (i + 1)) (xs (i + 2)) (xs (i + 3)))

set_option maxRecDepth 100000 in
set_option maxHeartbeats 4000000 in
theorem lw_c28 {nm : String} {L : Nat} {xs : Nat → Int32} {h : List aC} {σ : Sg} (HC : RC h σ) (HM : RM h σ) (ok : okSg σ) {i : Nat} (hi : i + 5 ≤ L) (hL : L ≤ 2560) (K : ∀ h' σ', RC h' σ' → RM h' σ' → okSg σ' → G (mLn nm) room_1 (some (L, xs)) PL 120 7679 18 [(3, .int (nI ((i + 5)))), (0, .retAddr 0), (1, .ref 0), (2, .ref 98)] [] h') : G (mLn nm) room_1 (some (L, xs)) PL 120 7679 32 [(3, .int (nI i)), (0, .retAddr 0), (1, .ref 0), (2, .ref 98)] [.int (nI 28)] h := by
  obtain ⟨fs9, hM⟩ := HM.o
  refine g_tableIn 947 dL_law_32 (by decide +kernel) (by decide +kernel) (off := 915) (by decide +kernel) (by decide) ?_
  refine g_aload_n dL_law_947 2 rfl ?_
  refine g_aload_nS dL_law_948 1 rfl ?_
  refine g_iload_n dL_law_949 0 rfl ?_
  refine g_iconst (v := nI 1) dL_law_950 (by decide +kernel) ?_
  refine g_iaddN dL_law_951 ?_
  refine g_sald rfl dL_law_952 (vpin (by omega) (by omega)) (congrArg xs (cl_ (by omega))) ?_
  refine g_aload_nS dL_law_953 1 rfl ?_
  refine g_iload_n dL_law_954 0 rfl ?_
  refine g_iconst (v := nI 2) dL_law_955 (by decide +kernel) ?_
  refine g_iaddN dL_law_956 ?_
  refine g_sald rfl dL_law_957 (vpin (by omega) (by omega)) (congrArg xs (cl_ (by omega))) ?_
  refine g_callVq (st1 := [.long ((oLook σ (xs (i + 1)) (xs (i + 2))).1)]) dL_law_958 (ev_x_look HC ok (xs (i + 1)) (xs (i + 2))) oX8_look wiX8_look weX8_look wmL_131 kX8 (HC.1) rfl ⟨(Nat.le_of_ble_eq_true rfl), (Nat.le_of_ble_eq_true rfl)⟩ ⟨(Nat.le_of_ble_eq_true rfl), (Nat.le_of_ble_eq_true rfl)⟩ (Nat.le_of_ble_eq_true rfl) rfl rfl (fun h1 q1 => ?_)
  obtain ⟨HC1, s1⟩ := q1
  have HM1 := HM.mv s1 (by omega)
  obtain ⟨fs8, hM1⟩ := HM1.o
  refine g_aload_n dL_law_961 3 rfl ?_
  refine g_aload_nS dL_law_962 1 rfl ?_
  refine g_iload_n dL_law_963 0 rfl ?_
  refine g_iconst (v := nI 1) dL_law_964 (by decide +kernel) ?_
  refine g_iaddN dL_law_965 ?_
  refine g_sald rfl dL_law_966 (vpin (by omega) (by omega)) (congrArg xs (cl_ (by omega))) ?_
  refine g_aload_nS dL_law_967 1 rfl ?_
  refine g_iload_n dL_law_968 0 rfl ?_
  refine g_iconst (v := nI 2) dL_law_969 (by decide +kernel) ?_
  refine g_iaddN dL_law_970 ?_
  refine g_sald rfl dL_law_971 (vpin (by omega) (by omega)) (congrArg xs (cl_ (by omega))) ?_
  refine g_callVq (st1 := [.long ((oLook σ (xs (i + 1)) (xs (i + 2))).1), .long ((oLook σ (xs (i + 1)) (xs (i + 2))).1)]) dL_law_972 (ev_y_look HM1 ok (xs (i + 1)) (xs (i + 2))) oX9_look wiX9_look weX9_look wmL_135 kX9 (hM1) rfl ⟨(Nat.le_of_ble_eq_true rfl), (Nat.le_of_ble_eq_true rfl)⟩ ⟨(Nat.le_of_ble_eq_true rfl), (Nat.le_of_ble_eq_true rfl)⟩ (Nat.le_of_ble_eq_true rfl) rfl rfl (fun h2 q2 => ?_)
  obtain ⟨HM2, s2⟩ := q2
  have HC2 := HC1.mv s2 (by omega)
  refine g_lcmp (v := nI 0) dL_law_975 (lg_self _) ?_
  refine g_if_eqN 1122 dL_law_976 (by decide) (by omega) (fun c976 => ?_) (fun z => absurd z (by omega))
  refine g_iinc (q := 0) (v := nI (i + 5)) (ls' := [(3, .int (nI (i + 5))), (0, .retAddr 0), (1, .ref 0), (2, .ref 98)]) dL_law_1122 rfl (incN _ 5) (Nat.le_of_ble_eq_true rfl) rfl ?_
  refine g_goto 18 dL_law_1125 (by decide) ?_
  exact K _ _ HC2 HM2 (ok_look ok (xs (i + 1)) (xs (i + 2)))

set_option maxRecDepth 100000 in
set_option maxHeartbeats 4000000 in
theorem lw_c29 {nm : String} {L : Nat} {xs : Nat → Int32} {h : List aC} {σ : Sg} (HC : RC h σ) (HM : RM h σ) (ok : okSg σ) {i : Nat} (hi : i + 5 ≤ L) (hL : L ≤ 2560) (K : ∀ h' σ', RC h' σ' → RM h' σ' → okSg σ' → G (mLn nm) room_1 (some (L, xs)) PL 120 7679 18 [(3, .int (nI ((i + 5)))), (0, .retAddr 0), (1, .ref 0), (2, .ref 98)] [] h') : G (mLn nm) room_1 (some (L, xs)) PL 120 7679 32 [(3, .int (nI i)), (0, .retAddr 0), (1, .ref 0), (2, .ref 98)] [.int (nI 29)] h := by
  obtain ⟨fs9, hM⟩ := HM.o
  refine g_tableIn 981 dL_law_32 (by decide +kernel) (by decide +kernel) (off := 949) (by decide +kernel) (by decide) ?_
  refine g_aload_n dL_law_981 2 rfl ?_
  refine g_aload_nS dL_law_982 1 rfl ?_
  refine g_iload_n dL_law_983 0 rfl ?_
  refine g_iconst (v := nI 1) dL_law_984 (by decide +kernel) ?_
  refine g_iaddN dL_law_985 ?_
  refine g_sald rfl dL_law_986 (vpin (by omega) (by omega)) (congrArg xs (cl_ (by omega))) ?_
  refine g_aload_nS dL_law_987 1 rfl ?_
  refine g_iload_n dL_law_988 0 rfl ?_
  refine g_iconst (v := nI 2) dL_law_989 (by decide +kernel) ?_
  refine g_iaddN dL_law_990 ?_
  refine g_sald rfl dL_law_991 (vpin (by omega) (by omega)) (congrArg xs (cl_ (by omega))) ?_
  refine g_callVq (st1 := [.int ((oLays σ (xs (i + 1)) (xs (i + 2))).1)]) dL_law_992 (ev_x_lays HC ok (xs (i + 1)) (xs (i + 2))) oX8_lays wiX8_lays weX8_lays wmL_136 kX8 (HC.1) rfl ⟨(Nat.le_of_ble_eq_true rfl), (Nat.le_of_ble_eq_true rfl)⟩ ⟨(Nat.le_of_ble_eq_true rfl), (Nat.le_of_ble_eq_true rfl)⟩ (Nat.le_of_ble_eq_true rfl) rfl rfl (fun h1 q1 => ?_)
  obtain ⟨HC1, s1⟩ := q1
  have HM1 := HM.mv s1 (by omega)
  obtain ⟨fs8, hM1⟩ := HM1.o
  refine g_aload_n dL_law_995 3 rfl ?_
  refine g_aload_nS dL_law_996 1 rfl ?_
  refine g_iload_n dL_law_997 0 rfl ?_
  refine g_iconst (v := nI 1) dL_law_998 (by decide +kernel) ?_
  refine g_iaddN dL_law_999 ?_
  refine g_sald rfl dL_law_1000 (vpin (by omega) (by omega)) (congrArg xs (cl_ (by omega))) ?_
  refine g_aload_nS dL_law_1001 1 rfl ?_
  refine g_iload_n dL_law_1002 0 rfl ?_
  refine g_iconst (v := nI 2) dL_law_1003 (by decide +kernel) ?_
  refine g_iaddN dL_law_1004 ?_
  refine g_sald rfl dL_law_1005 (vpin (by omega) (by omega)) (congrArg xs (cl_ (by omega))) ?_
  refine g_callVq (st1 := [.int ((oLays σ (xs (i + 1)) (xs (i + 2))).1), .int ((oLays σ (xs (i + 1)) (xs (i + 2))).1)]) dL_law_1006 (ev_y_lays HM1 ok (fun y hy => (HC.2.2.2.2.2.1.2.2.1 y hy).2) (xs (i + 1)) (xs (i + 2))) oX9_lays_ wiX9_lays_ weX9_lays_ wmL_139 kX9 (hM1) rfl ⟨(Nat.le_of_ble_eq_true rfl), (Nat.le_of_ble_eq_true rfl)⟩ ⟨(Nat.le_of_ble_eq_true rfl), (Nat.le_of_ble_eq_true rfl)⟩ (Nat.le_of_ble_eq_true rfl) rfl rfl (fun h2 q2 => ?_)
  obtain ⟨HM2, s2⟩ := q2
  have HC2 := HC1.mv s2 (by omega)
  refine g_icmp_eq 1122 dL_law_1009 (by decide) (fun c1009 => ?_) (fun z => absurd z (not_not_intro rfl))
  refine g_iinc (q := 0) (v := nI (i + 5)) (ls' := [(3, .int (nI (i + 5))), (0, .retAddr 0), (1, .ref 0), (2, .ref 98)]) dL_law_1122 rfl (incN _ 5) (Nat.le_of_ble_eq_true rfl) rfl ?_
  refine g_goto 18 dL_law_1125 (by decide) ?_
  exact K _ _ HC2 HM2 (ok_lays ok (xs (i + 1)) (xs (i + 2)))

set_option maxRecDepth 100000 in
set_option maxHeartbeats 4000000 in
theorem lw_c30 {nm : String} {L : Nat} {xs : Nat → Int32} {h : List aC} {σ : Sg} (HC : RC h σ) (HM : RM h σ) (ok : okSg σ) {i : Nat} (hi : i + 5 ≤ L) (hL : L ≤ 2560) (K : ∀ h' σ', RC h' σ' → RM h' σ' → okSg σ' → G (mLn nm) room_1 (some (L, xs)) PL 120 7679 18 [(3, .int (nI ((i + 5)))), (0, .retAddr 0), (1, .ref 0), (2, .ref 98)] [] h') : G (mLn nm) room_1 (some (L, xs)) PL 120 7679 32 [(3, .int (nI i)), (0, .retAddr 0), (1, .ref 0), (2, .ref 98)] [.int (nI 30)] h := by
  obtain ⟨fs9, hM⟩ := HM.o
  refine g_tableIn 1014 dL_law_32 (by decide +kernel) (by decide +kernel) (off := 982) (by decide +kernel) (by decide) ?_
  refine g_aload_n dL_law_1014 2 rfl ?_
  refine g_aload_nS dL_law_1015 1 rfl ?_
  refine g_iload_n dL_law_1016 0 rfl ?_
  refine g_iconst (v := nI 1) dL_law_1017 (by decide +kernel) ?_
  refine g_iaddN dL_law_1018 ?_
  refine g_sald rfl dL_law_1019 (vpin (by omega) (by omega)) (congrArg xs (cl_ (by omega))) ?_
  refine g_callVq (st1 := [.int ((oJudge σ (xs (i + 1))).1)]) dL_law_1020 (ev_x_judge HC ok (xs (i + 1))) oX8_judge wiX8_judge weX8_judge wmL_140 kX8 (HC.1) rfl ⟨(Nat.le_of_ble_eq_true rfl), (Nat.le_of_ble_eq_true rfl)⟩ ⟨(Nat.le_of_ble_eq_true rfl), (Nat.le_of_ble_eq_true rfl)⟩ (Nat.le_of_ble_eq_true rfl) rfl rfl (fun h1 q1 => ?_)
  obtain ⟨HC1, s1⟩ := q1
  have HM1 := HM.mv s1 (by omega)
  obtain ⟨fs8, hM1⟩ := HM1.o
  refine g_aload_n dL_law_1023 3 rfl ?_
  refine g_aload_nS dL_law_1024 1 rfl ?_
  refine g_iload_n dL_law_1025 0 rfl ?_
  refine g_iconst (v := nI 1) dL_law_1026 (by decide +kernel) ?_
  refine g_iaddN dL_law_1027 ?_
  refine g_sald rfl dL_law_1028 (vpin (by omega) (by omega)) (congrArg xs (cl_ (by omega))) ?_
  refine g_callVq (st1 := [.int ((oJudge σ (xs (i + 1))).1), .int ((oJudge σ (xs (i + 1))).1)]) dL_law_1029 (ev_y_judge HM1 ok (xs (i + 1))) oX9_judge wiX9_judge weX9_judge wmL_143 kX9 (hM1) rfl ⟨(Nat.le_of_ble_eq_true rfl), (Nat.le_of_ble_eq_true rfl)⟩ ⟨(Nat.le_of_ble_eq_true rfl), (Nat.le_of_ble_eq_true rfl)⟩ (Nat.le_of_ble_eq_true rfl) rfl rfl (fun h2 q2 => ?_)
  obtain ⟨HM2, s2⟩ := q2
  have HC2 := HC1.mv s2 (by omega)
  refine g_icmp_eq 1122 dL_law_1032 (by decide) (fun c1032 => ?_) (fun z => absurd z (not_not_intro rfl))
  refine g_iinc (q := 0) (v := nI (i + 5)) (ls' := [(3, .int (nI (i + 5))), (0, .retAddr 0), (1, .ref 0), (2, .ref 98)]) dL_law_1122 rfl (incN _ 5) (Nat.le_of_ble_eq_true rfl) rfl ?_
  refine g_goto 18 dL_law_1125 (by decide) ?_
  exact K _ _ HC2 HM2 (ok_judge ok (xs (i + 1)))

set_option maxRecDepth 100000 in
set_option maxHeartbeats 4000000 in
theorem lw_c31 {nm : String} {L : Nat} {xs : Nat → Int32} {h : List aC} {σ : Sg} (HC : RC h σ) (HM : RM h σ) (ok : okSg σ) {i : Nat} (hi : i + 5 ≤ L) (hL : L ≤ 2560) (K : ∀ h' σ', RC h' σ' → RM h' σ' → okSg σ' → G (mLn nm) room_1 (some (L, xs)) PL 120 7679 18 [(3, .int (nI ((i + 5)))), (0, .retAddr 0), (1, .ref 0), (2, .ref 98)] [] h') : G (mLn nm) room_1 (some (L, xs)) PL 120 7679 32 [(3, .int (nI i)), (0, .retAddr 0), (1, .ref 0), (2, .ref 98)] [.int (nI 31)] h := by
  obtain ⟨fs9, hM⟩ := HM.o
  refine g_tableIn 1037 dL_law_32 (by decide +kernel) (by decide +kernel) (off := 1005) (by decide +kernel) (by decide) ?_
  refine g_aload_n dL_law_1037 2 rfl ?_
  refine g_aload_nS dL_law_1038 1 rfl ?_
  refine g_iload_n dL_law_1039 0 rfl ?_
  refine g_iconst (v := nI 1) dL_law_1040 (by decide +kernel) ?_
  refine g_iaddN dL_law_1041 ?_
  refine g_sald rfl dL_law_1042 (vpin (by omega) (by omega)) (congrArg xs (cl_ (by omega))) ?_
  refine g_callVq (st1 := [.int ((oSizes σ (xs (i + 1))).1)]) dL_law_1043 (ev_x_sizes HC ok (xs (i + 1))) oX8_sizes wiX8_sizes weX8_sizes wmL_144 kX8 (HC.1) rfl ⟨(Nat.le_of_ble_eq_true rfl), (Nat.le_of_ble_eq_true rfl)⟩ ⟨(Nat.le_of_ble_eq_true rfl), (Nat.le_of_ble_eq_true rfl)⟩ (Nat.le_of_ble_eq_true rfl) rfl rfl (fun h1 q1 => ?_)
  obtain ⟨HC1, s1⟩ := q1
  have HM1 := HM.mv s1 (by omega)
  obtain ⟨fs8, hM1⟩ := HM1.o
  refine g_aload_n dL_law_1046 3 rfl ?_
  refine g_aload_nS dL_law_1047 1 rfl ?_
  refine g_iload_n dL_law_1048 0 rfl ?_
  refine g_iconst (v := nI 1) dL_law_1049 (by decide +kernel) ?_
  refine g_iaddN dL_law_1050 ?_
  refine g_sald rfl dL_law_1051 (vpin (by omega) (by omega)) (congrArg xs (cl_ (by omega))) ?_
  refine g_callVq (st1 := [.int ((oSizes σ (xs (i + 1))).1), .int ((oSizes σ (xs (i + 1))).1)]) dL_law_1052 (ev_y_sizes HM1 ok (xs (i + 1))) oX9_sizes wiX9_sizes weX9_sizes wmL_147 kX9 (hM1) rfl ⟨(Nat.le_of_ble_eq_true rfl), (Nat.le_of_ble_eq_true rfl)⟩ ⟨(Nat.le_of_ble_eq_true rfl), (Nat.le_of_ble_eq_true rfl)⟩ (Nat.le_of_ble_eq_true rfl) rfl rfl (fun h2 q2 => ?_)
  obtain ⟨HM2, s2⟩ := q2
  have HC2 := HC1.mv s2 (by omega)
  refine g_icmp_eq 1122 dL_law_1055 (by decide) (fun c1055 => ?_) (fun z => absurd z (not_not_intro rfl))
  refine g_iinc (q := 0) (v := nI (i + 5)) (ls' := [(3, .int (nI (i + 5))), (0, .retAddr 0), (1, .ref 0), (2, .ref 98)]) dL_law_1122 rfl (incN _ 5) (Nat.le_of_ble_eq_true rfl) rfl ?_
  refine g_goto 18 dL_law_1125 (by decide) ?_
  exact K _ _ HC2 HM2 (ok_sizes ok (xs (i + 1)))

set_option maxRecDepth 100000 in
set_option maxHeartbeats 4000000 in
theorem lw_c32 {nm : String} {L : Nat} {xs : Nat → Int32} {h : List aC} {σ : Sg} (HC : RC h σ) (HM : RM h σ) (ok : okSg σ) {i : Nat} (hi : i + 5 ≤ L) (hL : L ≤ 2560) (K : ∀ h' σ', RC h' σ' → RM h' σ' → okSg σ' → G (mLn nm) room_1 (some (L, xs)) PL 120 7679 18 [(3, .int (nI ((i + 5)))), (0, .retAddr 0), (1, .ref 0), (2, .ref 98)] [] h') : G (mLn nm) room_1 (some (L, xs)) PL 120 7679 32 [(3, .int (nI i)), (0, .retAddr 0), (1, .ref 0), (2, .ref 98)] [.int (nI 32)] h := by
  obtain ⟨fs9, hM⟩ := HM.o
  refine g_tableIn 1060 dL_law_32 (by decide +kernel) (by decide +kernel) (off := 1028) (by decide +kernel) (by decide) ?_
  refine g_aload_n dL_law_1060 2 rfl ?_
  refine g_callVq (st1 := [.int ((oUndo σ).1)]) dL_law_1061 (ev_x_undo HC ok ) oX8_undo wiX8_undo weX8_undo wmL_148 kX8 (HC.1) rfl ⟨(Nat.le_of_ble_eq_true rfl), (Nat.le_of_ble_eq_true rfl)⟩ ⟨(Nat.le_of_ble_eq_true rfl), (Nat.le_of_ble_eq_true rfl)⟩ (Nat.le_of_ble_eq_true rfl) rfl rfl (fun h1 q1 => ?_)
  obtain ⟨HC1, s1⟩ := q1
  have HM1 := HM.mv s1 (by omega)
  obtain ⟨fs8, hM1⟩ := HM1.o
  refine g_aload_n dL_law_1064 3 rfl ?_
  refine g_callVq (st1 := [.int ((oUndo σ).1), .int ((oUndo σ).1)]) dL_law_1065 (ev_y_undo HM1 ok ) oX9_undo wiX9_undo weX9_undo wmL_151 kX9 (hM1) rfl ⟨(Nat.le_of_ble_eq_true rfl), (Nat.le_of_ble_eq_true rfl)⟩ ⟨(Nat.le_of_ble_eq_true rfl), (Nat.le_of_ble_eq_true rfl)⟩ (Nat.le_of_ble_eq_true rfl) rfl rfl (fun h2 q2 => ?_)
  obtain ⟨HM2, s2⟩ := q2
  have HC2 := HC1.mv s2 (by omega)
  refine g_icmp_eq 1122 dL_law_1068 (by decide) (fun c1068 => ?_) (fun z => absurd z (not_not_intro rfl))
  refine g_iinc (q := 0) (v := nI (i + 5)) (ls' := [(3, .int (nI (i + 5))), (0, .retAddr 0), (1, .ref 0), (2, .ref 98)]) dL_law_1122 rfl (incN _ 5) (Nat.le_of_ble_eq_true rfl) rfl ?_
  refine g_goto 18 dL_law_1125 (by decide) ?_
  exact K _ _ HC2 HM2 (ok_undo ok )

set_option maxRecDepth 100000 in
set_option maxHeartbeats 4000000 in
theorem lw_c33 {nm : String} {L : Nat} {xs : Nat → Int32} {h : List aC} {σ : Sg} (HC : RC h σ) (HM : RM h σ) (ok : okSg σ) {i : Nat} (hi : i + 5 ≤ L) (hL : L ≤ 2560) (K : ∀ h' σ', RC h' σ' → RM h' σ' → okSg σ' → G (mLn nm) room_1 (some (L, xs)) PL 120 7679 18 [(3, .int (nI ((i + 5)))), (0, .retAddr 0), (1, .ref 0), (2, .ref 98)] [] h') : G (mLn nm) room_1 (some (L, xs)) PL 120 7679 32 [(3, .int (nI i)), (0, .retAddr 0), (1, .ref 0), (2, .ref 98)] [.int (nI 33)] h := by
  obtain ⟨fs9, hM⟩ := HM.o
  refine g_tableIn 1073 dL_law_32 (by decide +kernel) (by decide +kernel) (off := 1041) (by decide +kernel) (by decide) ?_
  refine g_aload_n dL_law_1073 2 rfl ?_
  refine g_callVq (st1 := [.int ((oImage σ).1)]) dL_law_1074 (ev_x_image HC ok ) oX8_image wiX8_image weX8_image wmL_152 kX8 (HC.1) rfl ⟨(Nat.le_of_ble_eq_true rfl), (Nat.le_of_ble_eq_true rfl)⟩ ⟨(Nat.le_of_ble_eq_true rfl), (Nat.le_of_ble_eq_true rfl)⟩ (Nat.le_of_ble_eq_true rfl) rfl rfl (fun h1 q1 => ?_)
  obtain ⟨HC1, s1⟩ := q1
  have HM1 := HM.mv s1 (by omega)
  obtain ⟨fs8, hM1⟩ := HM1.o
  refine g_aload_n dL_law_1077 3 rfl ?_
  refine g_callVq (st1 := [.int ((oImage σ).1), .int ((oImage σ).1)]) dL_law_1078 (ev_y_image HM1 ok ) oX9_image wiX9_image weX9_image wmL_155 kX9 (hM1) rfl ⟨(Nat.le_of_ble_eq_true rfl), (Nat.le_of_ble_eq_true rfl)⟩ ⟨(Nat.le_of_ble_eq_true rfl), (Nat.le_of_ble_eq_true rfl)⟩ (Nat.le_of_ble_eq_true rfl) rfl rfl (fun h2 q2 => ?_)
  obtain ⟨HM2, s2⟩ := q2
  have HC2 := HC1.mv s2 (by omega)
  refine g_icmp_eq 1122 dL_law_1081 (by decide) (fun c1081 => ?_) (fun z => absurd z (not_not_intro rfl))
  refine g_iinc (q := 0) (v := nI (i + 5)) (ls' := [(3, .int (nI (i + 5))), (0, .retAddr 0), (1, .ref 0), (2, .ref 98)]) dL_law_1122 rfl (incN _ 5) (Nat.le_of_ble_eq_true rfl) rfl ?_
  refine g_goto 18 dL_law_1125 (by decide) ?_
  exact K _ _ HC2 HM2 (ok_image ok )

set_option maxRecDepth 100000 in
set_option maxHeartbeats 4000000 in
theorem lw_c34 {nm : String} {L : Nat} {xs : Nat → Int32} {h : List aC} {σ : Sg} (HC : RC h σ) (HM : RM h σ) (ok : okSg σ) {i : Nat} (hi : i + 5 ≤ L) (hL : L ≤ 2560) (K : ∀ h' σ', RC h' σ' → RM h' σ' → okSg σ' → G (mLn nm) room_1 (some (L, xs)) PL 120 7679 18 [(3, .int (nI ((i + 5)))), (0, .retAddr 0), (1, .ref 0), (2, .ref 98)] [] h') : G (mLn nm) room_1 (some (L, xs)) PL 120 7679 32 [(3, .int (nI i)), (0, .retAddr 0), (1, .ref 0), (2, .ref 98)] [.int (nI 34)] h := by
  obtain ⟨fs9, hM⟩ := HM.o
  refine g_tableIn 1086 dL_law_32 (by decide +kernel) (by decide +kernel) (off := 1054) (by decide +kernel) (by decide) ?_
  refine g_aload_n dL_law_1086 2 rfl ?_
  refine g_callVq (st1 := [.int ((oOn σ).1)]) dL_law_1087 (ev_x_on HC ok ) oX8_on wiX8_on weX8_on wmL_156 kX8 (HC.1) rfl ⟨(Nat.le_of_ble_eq_true rfl), (Nat.le_of_ble_eq_true rfl)⟩ ⟨(Nat.le_of_ble_eq_true rfl), (Nat.le_of_ble_eq_true rfl)⟩ (Nat.le_of_ble_eq_true rfl) rfl rfl (fun h1 q1 => ?_)
  obtain ⟨HC1, s1⟩ := q1
  have HM1 := HM.mv s1 (by omega)
  obtain ⟨fs8, hM1⟩ := HM1.o
  refine g_aload_n dL_law_1090 3 rfl ?_
  refine g_callVq (st1 := [.int ((oOn σ).1), .int ((oOn σ).1)]) dL_law_1091 (ev_y_on HM1 ok ) oX9_on wiX9_on weX9_on wmL_159 kX9 (hM1) rfl ⟨(Nat.le_of_ble_eq_true rfl), (Nat.le_of_ble_eq_true rfl)⟩ ⟨(Nat.le_of_ble_eq_true rfl), (Nat.le_of_ble_eq_true rfl)⟩ (Nat.le_of_ble_eq_true rfl) rfl rfl (fun h2 q2 => ?_)
  obtain ⟨HM2, s2⟩ := q2
  have HC2 := HC1.mv s2 (by omega)
  refine g_icmp_eq 1122 dL_law_1094 (by decide) (fun c1094 => ?_) (fun z => absurd z (not_not_intro rfl))
  refine g_iinc (q := 0) (v := nI (i + 5)) (ls' := [(3, .int (nI (i + 5))), (0, .retAddr 0), (1, .ref 0), (2, .ref 98)]) dL_law_1122 rfl (incN _ 5) (Nat.le_of_ble_eq_true rfl) rfl ?_
  refine g_goto 18 dL_law_1125 (by decide) ?_
  exact K _ _ HC2 HM2 (ok_on ok )

set_option maxRecDepth 100000 in
set_option maxHeartbeats 4000000 in
theorem lw_c35 {nm : String} {L : Nat} {xs : Nat → Int32} {h : List aC} {σ : Sg} (HC : RC h σ) (HM : RM h σ) (ok : okSg σ) {i : Nat} (hi : i + 5 ≤ L) (hL : L ≤ 2560) (K : ∀ h' σ', RC h' σ' → RM h' σ' → okSg σ' → G (mLn nm) room_1 (some (L, xs)) PL 120 7679 18 [(3, .int (nI ((i + 5)))), (0, .retAddr 0), (1, .ref 0), (2, .ref 98)] [] h') : G (mLn nm) room_1 (some (L, xs)) PL 120 7679 32 [(3, .int (nI i)), (0, .retAddr 0), (1, .ref 0), (2, .ref 98)] [.int (nI 35)] h := by
  obtain ⟨fs9, hM⟩ := HM.o
  refine g_tableIn 1099 dL_law_32 (by decide +kernel) (by decide +kernel) (off := 1067) (by decide +kernel) (by decide) ?_
  refine g_aload_n dL_law_1099 2 rfl ?_
  refine g_aload_nS dL_law_1100 1 rfl ?_
  refine g_iload_n dL_law_1101 0 rfl ?_
  refine g_iconst (v := nI 1) dL_law_1102 (by decide +kernel) ?_
  refine g_iaddN dL_law_1103 ?_
  refine g_sald rfl dL_law_1104 (vpin (by omega) (by omega)) (congrArg xs (cl_ (by omega))) ?_
  refine g_callVq (st1 := [.int ((oCount σ (xs (i + 1))).1)]) dL_law_1105 (ev_x_count HC ok (xs (i + 1))) oX8_count wiX8_count weX8_count wmL_160 kX8 (HC.1) rfl ⟨(Nat.le_of_ble_eq_true rfl), (Nat.le_of_ble_eq_true rfl)⟩ ⟨(Nat.le_of_ble_eq_true rfl), (Nat.le_of_ble_eq_true rfl)⟩ (Nat.le_of_ble_eq_true rfl) rfl rfl (fun h1 q1 => ?_)
  obtain ⟨HC1, s1⟩ := q1
  have HM1 := HM.mv s1 (by omega)
  obtain ⟨fs8, hM1⟩ := HM1.o
  refine g_aload_n dL_law_1108 3 rfl ?_
  refine g_aload_nS dL_law_1109 1 rfl ?_
  refine g_iload_n dL_law_1110 0 rfl ?_
  refine g_iconst (v := nI 1) dL_law_1111 (by decide +kernel) ?_
  refine g_iaddN dL_law_1112 ?_
  refine g_sald rfl dL_law_1113 (vpin (by omega) (by omega)) (congrArg xs (cl_ (by omega))) ?_
  refine g_callVq (st1 := [.int ((oCount σ (xs (i + 1))).1), .int ((oCount σ (xs (i + 1))).1)]) dL_law_1114 (ev_y_count HM1 ok (xs (i + 1))) oX9_count wiX9_count weX9_count wmL_163 kX9 (hM1) rfl ⟨(Nat.le_of_ble_eq_true rfl), (Nat.le_of_ble_eq_true rfl)⟩ ⟨(Nat.le_of_ble_eq_true rfl), (Nat.le_of_ble_eq_true rfl)⟩ (Nat.le_of_ble_eq_true rfl) rfl rfl (fun h2 q2 => ?_)
  obtain ⟨HM2, s2⟩ := q2
  have HC2 := HC1.mv s2 (by omega)
  refine g_icmp_eq 1122 dL_law_1117 (by decide) (fun c1117 => ?_) (fun z => absurd z (not_not_intro rfl))
  refine g_iinc (q := 0) (v := nI (i + 5)) (ls' := [(3, .int (nI (i + 5))), (0, .retAddr 0), (1, .ref 0), (2, .ref 98)]) dL_law_1122 rfl (incN _ 5) (Nat.le_of_ble_eq_true rfl) rfl ?_
  refine g_goto 18 dL_law_1125 (by decide) ?_
  exact K _ _ HC2 HM2 (ok_count ok (xs (i + 1)))

set_option maxRecDepth 100000 in
set_option maxHeartbeats 4000000 in
theorem lw_loop {nm : String} {L : Nat} {xs : Nat → Int32} (hL : L ≤ 2560) : ∀ j i (h : List aC) (σ : Sg), L ≤ i + 5 * j + 4 → i ≤ 3000 → RC h σ → RM h σ → okSg σ → G (mLn nm) room_1 (some (L, xs)) PL 120 7679 18 [(3, .int (nI i)), (0, .retAddr 0), (1, .ref 0), (2, .ref 98)] [] h := by
  intro j
  induction j with
  | zero =>
    intro i h σ hj hi HC HM ok
    have c0 : nI L - nI 5 < nI i := by rw [Int32.lt_iff_toInt_lt, sub_toInt (by omega) (by omega), nI_toInt (by omega)]; omega
    refine g_iload_n dL_law_18 0 rfl ?_
    refine g_aload_nS dL_law_19 1 rfl ?_
    refine g_slen rfl dL_law_20 rfl ?_
    refine g_iconst (v := nI 5) dL_law_21 (by decide +kernel) ?_
    refine g_isub dL_law_22 ?_
    refine g_icmp_gt 1128 dL_law_23 (by decide) (fun c23 => ?_) (fun z => absurd z (not_not_intro c0))
    refine g_iconst (v := nI 1) dL_law_1128 (by decide +kernel) ?_
    exact g_zret dL_law_1129 rfl (by decide) ⟨(Nat.le_of_ble_eq_true rfl), (Nat.le_of_ble_eq_true rfl)⟩ rfl
  | succ j ih =>
    intro i h σ hj hi HC HM ok
    refine g_iload_n dL_law_18 0 rfl ?_
    refine g_aload_nS dL_law_19 1 rfl ?_
    refine g_slen rfl dL_law_20 rfl ?_
    refine g_iconst (v := nI 5) dL_law_21 (by decide +kernel) ?_
    refine g_isub dL_law_22 ?_
    refine g_icmp_gt 1128 dL_law_23 (by decide) (fun c23 => ?_) (fun c23 => ?_)
    · refine g_iconst (v := nI 1) dL_law_1128 (by decide +kernel) ?_
      exact g_zret dL_law_1129 rfl (by decide) ⟨(Nat.le_of_ble_eq_true rfl), (Nat.le_of_ble_eq_true rfl)⟩ rfl
    · have hi5 : i + 5 ≤ L := Decidable.byContradiction fun z => c23 (show nI L - nI 5 < nI i by rw [Int32.lt_iff_toInt_lt, sub_toInt (by omega) (by omega), nI_toInt (by omega)]; omega)
      refine g_aload_nS dL_law_26 1 rfl ?_
      refine g_iload_n dL_law_27 0 rfl ?_
      refine g_sald rfl dL_law_28 (vpin (by omega) (by omega)) (congrArg xs (cl_ (by omega))) ?_
      refine g_bipush (v := nI 63) dL_law_29 (by decide +kernel) ?_
      refine g_iand dL_law_31 ?_
      refine g_top (show (xs i) &&& (nI 63) = nI ((xs i).toBitVec.toNat % 2 ^ 6) from pk_and (xs i) 6 (by decide)) ?_
      obtain ⟨v, hv, ev⟩ : ∃ v, v < 64 ∧ (xs i).toBitVec.toNat % 2 ^ 6 = v := ⟨_, Nat.mod_lt _ (by decide), rfl⟩
      rw [ev]
      by_cases c36 : v < 36
      · have cs : v = 0 ∨ v = 1 ∨ v = 2 ∨ v = 3 ∨ v = 4 ∨ v = 5 ∨ v = 6 ∨ v = 7 ∨ v = 8 ∨ v = 9 ∨ v = 10 ∨ v = 11 ∨ v = 12 ∨ v = 13 ∨ v = 14 ∨ v = 15 ∨ v = 16 ∨ v = 17 ∨ v = 18 ∨ v = 19 ∨ v = 20 ∨ v = 21 ∨ v = 22 ∨ v = 23 ∨ v = 24 ∨ v = 25 ∨ v = 26 ∨ v = 27 ∨ v = 28 ∨ v = 29 ∨ v = 30 ∨ v = 31 ∨ v = 32 ∨ v = 33 ∨ v = 34 ∨ v = 35 := by omega
        rcases cs with rfl | rfl | rfl | rfl | rfl | rfl | rfl | rfl | rfl | rfl | rfl | rfl | rfl | rfl | rfl | rfl | rfl | rfl | rfl | rfl | rfl | rfl | rfl | rfl | rfl | rfl | rfl | rfl | rfl | rfl | rfl | rfl | rfl | rfl | rfl | rfl
        · exact lw_c0 HC HM ok hi5 hL (fun h2 σ2 a b c => ih (i + 5) h2 σ2 (by omega) (by omega) a b c)
        · exact lw_c1 HC HM ok hi5 hL (fun h2 σ2 a b c => ih (i + 5) h2 σ2 (by omega) (by omega) a b c)
        · exact lw_c2 HC HM ok hi5 hL (fun h2 σ2 a b c => ih (i + 5) h2 σ2 (by omega) (by omega) a b c)
        · exact lw_c3 HC HM ok hi5 hL (fun h2 σ2 a b c => ih (i + 5) h2 σ2 (by omega) (by omega) a b c)
        · exact lw_c4 HC HM ok hi5 hL (fun h2 σ2 a b c => ih (i + 5) h2 σ2 (by omega) (by omega) a b c)
        · exact lw_c5 HC HM ok hi5 hL (fun h2 σ2 a b c => ih (i + 5) h2 σ2 (by omega) (by omega) a b c)
        · exact lw_c6 HC HM ok hi5 hL (fun h2 σ2 a b c => ih (i + 5) h2 σ2 (by omega) (by omega) a b c)
        · exact lw_c7 HC HM ok hi5 hL (fun h2 σ2 a b c => ih (i + 5) h2 σ2 (by omega) (by omega) a b c)
        · exact lw_c8 HC HM ok hi5 hL (fun h2 σ2 a b c => ih (i + 5) h2 σ2 (by omega) (by omega) a b c)
        · exact lw_c9 HC HM ok hi5 hL (fun h2 σ2 a b c => ih (i + 5) h2 σ2 (by omega) (by omega) a b c)
        · exact lw_c10 HC HM ok hi5 hL (fun h2 σ2 a b c => ih (i + 5) h2 σ2 (by omega) (by omega) a b c)
        · exact lw_c11 HC HM ok hi5 hL (fun h2 σ2 a b c => ih (i + 5) h2 σ2 (by omega) (by omega) a b c)
        · exact lw_c12 HC HM ok hi5 hL (fun h2 σ2 a b c => ih (i + 5) h2 σ2 (by omega) (by omega) a b c)
        · exact lw_c13 HC HM ok hi5 hL (fun h2 σ2 a b c => ih (i + 5) h2 σ2 (by omega) (by omega) a b c)
        · exact lw_c14 HC HM ok hi5 hL (fun h2 σ2 a b c => ih (i + 5) h2 σ2 (by omega) (by omega) a b c)
        · exact lw_c15 HC HM ok hi5 hL (fun h2 σ2 a b c => ih (i + 5) h2 σ2 (by omega) (by omega) a b c)
        · exact lw_c16 HC HM ok hi5 hL (fun h2 σ2 a b c => ih (i + 5) h2 σ2 (by omega) (by omega) a b c)
        · exact lw_c17 HC HM ok hi5 hL (fun h2 σ2 a b c => ih (i + 5) h2 σ2 (by omega) (by omega) a b c)
        · exact lw_c18 HC HM ok hi5 hL (fun h2 σ2 a b c => ih (i + 5) h2 σ2 (by omega) (by omega) a b c)
        · exact lw_c19 HC HM ok hi5 hL (fun h2 σ2 a b c => ih (i + 5) h2 σ2 (by omega) (by omega) a b c)
        · exact lw_c20 HC HM ok hi5 hL (fun h2 σ2 a b c => ih (i + 5) h2 σ2 (by omega) (by omega) a b c)
        · exact lw_c21 HC HM ok hi5 hL (fun h2 σ2 a b c => ih (i + 5) h2 σ2 (by omega) (by omega) a b c)
        · exact lw_c22 HC HM ok hi5 hL (fun h2 σ2 a b c => ih (i + 5) h2 σ2 (by omega) (by omega) a b c)
        · exact lw_c23 HC HM ok hi5 hL (fun h2 σ2 a b c => ih (i + 5) h2 σ2 (by omega) (by omega) a b c)
        · exact lw_c24 HC HM ok hi5 hL (fun h2 σ2 a b c => ih (i + 5) h2 σ2 (by omega) (by omega) a b c)
        · exact lw_c25 HC HM ok hi5 hL (fun h2 σ2 a b c => ih (i + 5) h2 σ2 (by omega) (by omega) a b c)
        · exact lw_c26 HC HM ok hi5 hL (fun h2 σ2 a b c => ih (i + 5) h2 σ2 (by omega) (by omega) a b c)
        · exact lw_c27 HC HM ok hi5 hL (fun h2 σ2 a b c => ih (i + 5) h2 σ2 (by omega) (by omega) a b c)
        · exact lw_c28 HC HM ok hi5 hL (fun h2 σ2 a b c => ih (i + 5) h2 σ2 (by omega) (by omega) a b c)
        · exact lw_c29 HC HM ok hi5 hL (fun h2 σ2 a b c => ih (i + 5) h2 σ2 (by omega) (by omega) a b c)
        · exact lw_c30 HC HM ok hi5 hL (fun h2 σ2 a b c => ih (i + 5) h2 σ2 (by omega) (by omega) a b c)
        · exact lw_c31 HC HM ok hi5 hL (fun h2 σ2 a b c => ih (i + 5) h2 σ2 (by omega) (by omega) a b c)
        · exact lw_c32 HC HM ok hi5 hL (fun h2 σ2 a b c => ih (i + 5) h2 σ2 (by omega) (by omega) a b c)
        · exact lw_c33 HC HM ok hi5 hL (fun h2 σ2 a b c => ih (i + 5) h2 σ2 (by omega) (by omega) a b c)
        · exact lw_c34 HC HM ok hi5 hL (fun h2 σ2 a b c => ih (i + 5) h2 σ2 (by omega) (by omega) a b c)
        · exact lw_c35 HC HM ok hi5 hL (fun h2 σ2 a b c => ih (i + 5) h2 σ2 (by omega) (by omega) a b c)
      · refine g_tableOut 1122 dL_law_32 (Or.inr (by rw [nI_toInt (by omega)]; omega)) (by decide) ?_
        refine g_iinc (q := 0) (v := nI (i + 5)) (ls' := [(3, .int (nI (i + 5))), (0, .retAddr 0), (1, .ref 0), (2, .ref 98)]) dL_law_1122 rfl (incN _ 5) (Nat.le_of_ble_eq_true rfl) rfl ?_
        refine g_goto 18 dL_law_1125 (by decide) ?_
        exact ih (i + 5) h σ (by omega) (by omega) HC HM ok

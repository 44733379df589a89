theorem rR_cp {R P : List Int32} {rm : Nat → Nat → Nat} (h : rR P 0 rm) (lR : R.length = 338) : rR (cpL P 0 R 0 338) 0 rm := rR_cg h (fun i hi => by rw [Nat.zero_add]; exact cp0 (by omega) hi)
theorem tR_cp {R P : List Int32} {a : Nat} {tu : Nat → Nat × Nat} (h : tR P a tu) (lR : R.length = 12) (ha : a ≤ 6) : tR (cpL P 0 R 0 12) a tu := tR_cg h ha (fun i hi => cp0 (by omega) hi)
theorem oText_p {σ : Sg} {p : Nat} (ew : wp σ.2.1.2 σ.2.1.1 0 0 = some p) : oText σ = (-1000 - nI p, ltZ σ) := by unfold oText; rw [ew]
theorem oText_s {σ : Sg} {q : Nat} {c : Cr} (ew : wp σ.2.1.2 σ.2.1.1 0 0 = none) (er : tRun σ.2.1.2 σ.2.1.1 σ.2.1.1 0 0 σ.1 = (none, q, c)) : oText σ = (nI q, (c, (0, σ.2.1.2), σ.2.2.1, [], σ.2.2.2.2)) := by unfold oText; rw [ew, er]
theorem oText_f {σ : Sg} {i : Nat} (ew : wp σ.2.1.2 σ.2.1.1 0 0 = none) (er : (tRun σ.2.1.2 σ.2.1.1 σ.2.1.1 0 0 σ.1).1 = some i) : oText σ = (-2000 - nI i, ltZ σ) := by
  obtain ⟨a, b, c, e⟩ : ∃ a b c, tRun σ.2.1.2 σ.2.1.1 σ.2.1.1 0 0 σ.1 = (a, b, c) := ⟨_, _, _, rfl⟩
  rw [e] at er
  have er : a = some i := er
  unfold oText
  rw [ew, e, er]

set_option maxRecDepth 100000 in
set_option maxHeartbeats 4000000 in
theorem lp_txt {h0 : List aC} {P0 : Option Value → List aC → Prop} {fo as_ sm sk z : Int32} {am : Nat} {ib : Bool} {iN iM iT : Int32} {W : List Nat} (hW : rd h0 111 = some (.inl (W.map nI))) (lW : W.length = 72) (ha : am ≤ 72) (okw : ∀ i, i < am → W.getD i 0 < 256) {x1 : Int32} {n0 m0 a0 d0 : Nat} {res : Option Nat × Nat × Cr} (KS : ∀ h' c' de' P R U q' i', CrM h' c' de' fo as_ sm sk z am ib iN iM iT P R U → res = (none, q', c') → Smo 98 102 h0 h' → G mX9_text (rmD 4 0 0) none P0 0 0 215 [(7, .int (nI i')), (6, .int (nI q')), (0, .ref 98), (1, .int x1), (2, .int (nI n0)), (3, .int (nI m0)), (4, .int (nI a0)), (5, .int (nI d0))] [] h') (KF : ∀ h' c' de' P R U q' i', CrM h' c' de' fo as_ sm sk z am ib iN iM iT P R U → res.1 = some i' → i' < am → Smo 98 102 h0 h' → G mX9_text (rmD 4 0 0) none P0 0 0 112 [(7, .int (nI i')), (6, .int (nI q')), (0, .ref 98), (1, .int x1), (2, .int (nI n0)), (3, .int (nI m0)), (4, .int (nI a0)), (5, .int (nI d0))] [] h') : ∀ j i (h : List aC) (q : Nat) (c : Cr) (de : Nat) (P R U : List Int32), am ≤ i + j → q + j ≤ 200 → i ≤ 72 → tRun W am j i q c = res → CrM h c de fo as_ sm sk z am ib iN iM iT P R U → okCr c → wfT W am i → Smo 98 102 h0 h → G mX9_text (rmD 4 0 0) none P0 0 0 94 [(7, .int (nI i)), (6, .int (nI q)), (0, .ref 98), (1, .int x1), (2, .int (nI n0)), (3, .int (nI m0)), (4, .int (nI a0)), (5, .int (nI d0))] [] h := by
  intro j
  induction j with
  | zero =>
    intro i h q c de P R U hj hq hi hr HC ok hw hS
    obtain ⟨hO, hP, lP, vP, hR, lR, vR, hU, lU, vU⟩ := id HC
    have hO : rd h 98 = some (.inr (9, [.int (nI c.1), .int (nI c.2.1), .ref 99, .ref 100, .ref 101, .int (nI c.2.2.2.1), .ref 102, .int (nI de), .ref 103, .ref 104, .ref 105, .int fo, .int as_, .int sm, .int sk, .ref 106, .ref 107, .ref 108, .int z, .ref 109, .ref 110, .ref 111, .int (nI am), .ref 112, .ref 113, .ref 114, .ref 115, .ref 116, .int (nI (bI ib)), .int iN, .int iM, .int iT, .ref 117, .ref 118, .ref 119])) := hO
    refine g_iload dX9_text_94 0 rfl ?_
    refine g_aload_n dX9_text_96 2 rfl ?_
    refine g_getf dX9_text_97 kX9 wfX9_238 (Nat.le_of_ble_eq_true rfl) (hO) rfl ?_
    refine g_icmp_geN 215 dX9_text_100 (by decide) (by omega) (by omega) (fun c100 => ?_) (fun z => absurd z (by omega))
    exact KS _ _ _ _ _ _ _ _ HC (by rw [← hr, tRun_e (by omega)]) hS
  | succ j ih =>
    intro i h q c de P R U hj hq hi hr HC ok hw hS
    obtain ⟨hO, hP, lP, vP, hR, lR, vR, hU, lU, vU⟩ := id HC
    have hO : rd h 98 = some (.inr (9, [.int (nI c.1), .int (nI c.2.1), .ref 99, .ref 100, .ref 101, .int (nI c.2.2.2.1), .ref 102, .int (nI de), .ref 103, .ref 104, .ref 105, .int fo, .int as_, .int sm, .int sk, .ref 106, .ref 107, .ref 108, .int z, .ref 109, .ref 110, .ref 111, .int (nI am), .ref 112, .ref 113, .ref 114, .ref 115, .ref 116, .int (nI (bI ib)), .int iN, .int iM, .int iT, .ref 117, .ref 118, .ref 119])) := hO
    refine g_iload dX9_text_94 0 rfl ?_
    refine g_aload_n dX9_text_96 2 rfl ?_
    refine g_getf dX9_text_97 kX9 wfX9_238 (Nat.le_of_ble_eq_true rfl) (hO) rfl ?_
    refine g_icmp_geN 215 dX9_text_100 (by decide) (by omega) (by omega) (fun c100 => ?_) (fun c100 => ?_)
    · exact KS _ _ _ _ _ _ _ _ HC (by rw [← hr, tRun_e (by omega)]) hS
    · have hst := (wfT_stm hw (show i < am by omega)).1
      have hwn := (wfT_stm hw (show i < am by omega)).2
      have ow := okw i (by omega)
      have ll := lnO_le (W.getD i 0)
      have lz := lnO_z (W.getD i 0)
      have l0 := hst.1
      refine g_aload_n dX9_text_103 2 rfl ?_
      refine g_iload dX9_text_104 0 rfl ?_
      refine g_callVq (st1 := [.int (nI (bI ((tStep W i c).isSome)))]) dX9_text_106 (ev_does HC ok (show rd h 111 = some (.inl (W.map nI)) by rw [hS 111 (by omega)]; exact hW) lW ha i hst) oX9_does wiX9_does weX9_does wmX9_254 kX9 (hO) rfl ⟨(Nat.le_of_ble_eq_true rfl), (Nat.le_of_ble_eq_true rfl)⟩ ⟨Nat.zero_le _, Nat.zero_le _⟩ (Nat.le_of_ble_eq_true rfl) rfl rfl (fun h1 q1 => ?_)
      obtain ⟨de2, P2, R2, U2, HC2, s2⟩ := q1
      have f1_111 : rd h1 111 = some (.inl ((W).map nI)) := by rw [s2 _ (by omega)]; exact (show rd h 111 = some (.inl (W.map nI)) by rw [hS 111 (by omega)]; exact hW)
      have o2 : rd h1 98 = some (.inr (9, [.int (nI (((tStep W i c).getD c).1)), .int (nI (((tStep W i c).getD c).2.1)), .ref 99, .ref 100, .ref 101, .int (nI (((tStep W i c).getD c).2.2.2.1)), .ref 102, .int (nI de2), .ref 103, .ref 104, .ref 105, .int fo, .int as_, .int sm, .int sk, .ref 106, .ref 107, .ref 108, .int z, .ref 109, .ref 110, .ref 111, .int (nI am), .ref 112, .ref 113, .ref 114, .ref 115, .ref 116, .int (nI (bI ib)), .int iN, .int iM, .int iT, .ref 117, .ref 118, .ref 119])) := HC2.1
      refine g_if_neB 192 dX9_text_109 (by decide) (fun c109 => ?_) (fun c109 => ?_)
      · obtain ⟨c2, et⟩ := Option.isSome_iff_exists.mp c109
        refine g_iinc (q := 1) (v := nI (q + 1)) (ls' := [(6, .int (nI (q + 1))), (7, .int (nI i)), (0, .ref 98), (1, .int x1), (2, .int (nI n0)), (3, .int (nI m0)), (4, .int (nI a0)), (5, .int (nI d0))]) dX9_text_192 rfl (inc1 _) (Nat.le_of_ble_eq_true rfl) rfl ?_
        refine g_iload dX9_text_195 1 rfl ?_
        refine g_aload_n dX9_text_197 2 rfl ?_
        refine g_getf dX9_text_198 kX9 wfX9_50 (Nat.le_of_ble_eq_true rfl) (o2) rfl ?_
        refine g_iload dX9_text_201 1 rfl ?_
        refine g_ialN dX9_text_203 (f1_111) (by omega) (by omega) ?_
        refine g_callSp dX9_text_204 (ev_digitsOf ((W).getD i 0) (by omega) _) oX9_digitsOf wsX9_digitsOf wmX9_241 rfl ⟨(Nat.le_of_ble_eq_true rfl), (Nat.le_of_ble_eq_true rfl)⟩ ⟨Nat.zero_le _, Nat.zero_le _⟩ (Nat.le_of_ble_eq_true rfl) rfl ?_
        refine g_iconst (v := nI 2) dX9_text_207 (by decide +kernel) ?_
        refine g_iaddN dX9_text_208 ?_
        refine g_iaddN dX9_text_209 ?_
        refine g_top (show nI (i + ((lnO ((W).getD i 0) - 2) + 2)) = nI (i + lnO (W.getD i 0)) from congrArg nI (by omega)) ?_
        refine g_istore (ls' := [(7, .int (nI (i + lnO (W.getD i 0)))), (6, .int (nI (q + 1))), (0, .ref 98), (1, .int x1), (2, .int (nI n0)), (3, .int (nI m0)), (4, .int (nI a0)), (5, .int (nI d0))]) dX9_text_210 (Nat.le_of_ble_eq_true rfl) rfl ?_
        refine g_goto 94 dX9_text_212 (by decide) ?_
        rw [et] at HC2
        rw [tRun_s (by omega) et] at hr
        exact ih _ _ _ c2 _ _ _ _ (by omega) (by omega) (by have := hwn.1; omega) hr HC2 (tStep_ok hst ok et) hwn (hS.tr (fun q hq => by rw [s2 q (by omega)]))
      · have et : tStep W i c = none := by
          cases h9 : tStep W i c with
          | none => rfl
          | some x => rw [h9] at c109; cases c109
        rw [et] at HC2
        exact KF _ _ _ _ _ _ _ _ HC2 (by rw [← hr, tRun_n (by omega) et]) (by omega) (hS.tr (fun q hq => by rw [s2 q (by omega)]))

set_option maxRecDepth 100000 in
set_option maxHeartbeats 4000000 in
theorem ev_y_text_p {h : List aC} {σ : Sg} (H : RM h σ) (ok : okSg σ) (p : Nat) (ew : wp σ.2.1.2 σ.2.1.1 0 0 = some p) : Ev mX9_text 4 0 0 [.ref 98] h (spM h (oText σ)) := by
  obtain ⟨fo, as_, sm, sk, z, iN, iM, iT, P, Ro, U, rf, WM, WP, WR, Tr, Ke, Co, Th, Be, Le, AP, AR, AU, Sz, It, IP, IR, IU, mO, mP, mRo, mU, mrf, mWM, mWP, mWR, mTr, mKe, mCo, mTh, mBe, mLe, mAP, mAR, mAU, mSz, mIt, mIP, mIR, mIU, vP, vR, vU, vF, vH, vL, vS, vI, vG⟩ := id H
  have mO : rd h 98 = some (.inr (9, [.int (nI σ.1.1), .int (nI σ.1.2.1), .ref 99, .ref 100, .ref 101, .int (nI σ.1.2.2.2.1), .ref 102, .int (nI ((σ.2.2.2.1).length)), .ref 103, .ref 104, .ref 105, .int fo, .int as_, .int sm, .int sk, .ref 106, .ref 107, .ref 108, .int z, .ref 109, .ref 110, .ref 111, .int (nI σ.2.1.1), .ref 112, .ref 113, .ref 114, .ref 115, .ref 116, .int (nI (bI σ.2.2.2.2.1.isSome)), .int iN, .int iM, .int iT, .ref 117, .ref 118, .ref 119])) := mO
  obtain ⟨mP, lP⟩ := mP
  obtain ⟨mRo, lRo⟩ := mRo
  obtain ⟨mU, lU⟩ := mU
  obtain ⟨mrf, lrf⟩ := mrf
  obtain ⟨mWM, lWM⟩ := mWM
  obtain ⟨mWP, lWP⟩ := mWP
  obtain ⟨mWR, lWR⟩ := mWR
  obtain ⟨mTr, lTr⟩ := mTr
  obtain ⟨mKe, lKe⟩ := mKe
  obtain ⟨mCo, lCo⟩ := mCo
  obtain ⟨mTh, lTh⟩ := mTh
  obtain ⟨mBe, lBe⟩ := mBe
  obtain ⟨mLe, lLe⟩ := mLe
  obtain ⟨mAP, lAP⟩ := mAP
  obtain ⟨mAR, lAR⟩ := mAR
  obtain ⟨mAU, lAU⟩ := mAU
  obtain ⟨mSz, lSz⟩ := mSz
  obtain ⟨mIt, lIt⟩ := mIt
  obtain ⟨mIP, lIP⟩ := mIP
  obtain ⟨mIR, lIR⟩ := mIR
  obtain ⟨mIU, lIU⟩ := mIU
  obtain ⟨okc, ⟨okl, okw⟩, okn, ⟨okh, oke⟩, oki, okr⟩ := id ok
  obtain ⟨k1, k2, k3, k4, k5, k6, k7, k8, k9⟩ := id okc
  have lW : σ.2.1.2.length = 72 := by have z := lLe; rw [vL, List.length_map] at z; exact z
  have mLe : rd h 111 = some (.inl (σ.2.1.2.map nI)) := by rw [← vL]; exact mLe
  have lW2 : (σ.2.1.2.map nI).length = 72 := by rw [List.length_map]; exact lW
  have okw2 := okw
  have pl := wp_le _ _ _ _ ew
  rw [oText_p ew]
  refine Ev.of pX9_text (Nat.le_of_ble_eq_true rfl) ?_
  show G mX9_text (rmD 4 0 0) none _ 0 0 0 [(0, .ref 98)] [] h
  refine g_aload_n dX9_text_0 0 rfl ?_
  refine g_callVp dX9_text_1 (ev_wrongP (show MO h _ _ _ _ _ _ _ _ _ _ _ _ _ _ from mO) mLe lW okl okw) oX9_wrongPlace wiX9_wrongPlace weX9_wrongPlace wmX9_251 kX9 (mO) rfl ⟨(Nat.le_of_ble_eq_true rfl), (Nat.le_of_ble_eq_true rfl)⟩ ⟨Nat.zero_le _, Nat.zero_le _⟩ (Nat.le_of_ble_eq_true rfl) rfl ?_
  refine g_top (show wI (wp σ.2.1.2 σ.2.1.1 0 0) = nI p from by rw [ew]; rfl) ?_
  refine g_istore_n (ls' := [(1, .int (nI p)), (0, .ref 98)]) dX9_text_4 (Nat.le_of_ble_eq_true rfl) rfl ?_
  refine g_iload_n dX9_text_5 0 rfl ?_
  refine g_if_ltN 20 dX9_text_6 (by decide) (by omega) ?_
  refine g_aload_n dX9_text_9 1 rfl ?_
  refine g_iconst (v := nI 0) dX9_text_10 (by decide +kernel) ?_
  refine g_putv dX9_text_11 kX9 wfX9_238 (Nat.le_of_ble_eq_true rfl) rfl (fun _ _ => ⟨rfl, rfl⟩) (mO) (Nat.le_of_ble_eq_true rfl) (fs' := [.int (nI σ.1.1), .int (nI σ.1.2.1), .ref 99, .ref 100, .ref 101, .int (nI σ.1.2.2.2.1), .ref 102, .int (nI ((σ.2.2.2.1).length)), .ref 103, .ref 104, .ref 105, .int fo, .int as_, .int sm, .int sk, .ref 106, .ref 107, .ref 108, .int z, .ref 109, .ref 110, .ref 111, .int (nI 0), .ref 112, .ref 113, .ref 114, .ref 115, .ref 116, .int (nI (bI σ.2.2.2.2.1.isSome)), .int iN, .int iM, .int iT, .ref 117, .ref 118, .ref 119]) rfl (fun h1 e1 => ?_)
  have f1_98 : rd h1 98 = some (.inr (9, [.int (nI σ.1.1), .int (nI σ.1.2.1), .ref 99, .ref 100, .ref 101, .int (nI σ.1.2.2.2.1), .ref 102, .int (nI ((σ.2.2.2.1).length)), .ref 103, .ref 104, .ref 105, .int fo, .int as_, .int sm, .int sk, .ref 106, .ref 107, .ref 108, .int z, .ref 109, .ref 110, .ref 111, .int (nI 0), .ref 112, .ref 113, .ref 114, .ref 115, .ref 116, .int (nI (bI σ.2.2.2.2.1.isSome)), .int iN, .int iM, .int iT, .ref 117, .ref 118, .ref 119])) := by rw [e1]; exact rd_wr_eq (mO)
  have s1 : Smo 98 (98 + 1) h h1 := by rw [e1]; exact Smo.wr (by omega) (by omega)
  have f1_99 : rd h1 99 = some (.inl (P)) := by rw [s1 _ (by omega)]; exact mP
  have f1_100 : rd h1 100 = some (.inl (Ro)) := by rw [s1 _ (by omega)]; exact mRo
  have f1_101 : rd h1 101 = some (.inl (U)) := by rw [s1 _ (by omega)]; exact mU
  have f1_102 : rd h1 102 = some (.inl (rf)) := by rw [s1 _ (by omega)]; exact mrf
  have f1_103 : rd h1 103 = some (.inl (WM)) := by rw [s1 _ (by omega)]; exact mWM
  have f1_104 : rd h1 104 = some (.inl (WP)) := by rw [s1 _ (by omega)]; exact mWP
  have f1_105 : rd h1 105 = some (.inl (WR)) := by rw [s1 _ (by omega)]; exact mWR
  have f1_106 : rd h1 106 = some (.inl (Tr)) := by rw [s1 _ (by omega)]; exact mTr
  have f1_107 : rd h1 107 = some (.inl (Ke)) := by rw [s1 _ (by omega)]; exact mKe
  have f1_108 : rd h1 108 = some (.inl (Co)) := by rw [s1 _ (by omega)]; exact mCo
  have f1_109 : rd h1 109 = some (.inl (Th)) := by rw [s1 _ (by omega)]; exact mTh
  have f1_110 : rd h1 110 = some (.inl (Be)) := by rw [s1 _ (by omega)]; exact mBe
  have f1_111 : rd h1 111 = some (.inl (σ.2.1.2.map nI)) := by rw [s1 _ (by omega)]; exact mLe
  have f1_112 : rd h1 112 = some (.inl (AP)) := by rw [s1 _ (by omega)]; exact mAP
  have f1_113 : rd h1 113 = some (.inl (AR)) := by rw [s1 _ (by omega)]; exact mAR
  have f1_114 : rd h1 114 = some (.inl (AU)) := by rw [s1 _ (by omega)]; exact mAU
  have f1_115 : rd h1 115 = some (.inl (Sz)) := by rw [s1 _ (by omega)]; exact mSz
  have f1_116 : rd h1 116 = some (.inl (It)) := by rw [s1 _ (by omega)]; exact mIt
  have f1_117 : rd h1 117 = some (.inl (IP)) := by rw [s1 _ (by omega)]; exact mIP
  have f1_118 : rd h1 118 = some (.inl (IR)) := by rw [s1 _ (by omega)]; exact mIR
  have f1_119 : rd h1 119 = some (.inl (IU)) := by rw [s1 _ (by omega)]; exact mIU
  refine g_sipush (v := (-1000)) dX9_text_14 (by decide +kernel) ?_
  refine g_iload_n dX9_text_17 0 rfl ?_
  refine g_isub dX9_text_18 ?_
  exact g_iret dX9_text_19 rfl ⟨Nat.zero_le _, Nat.zero_le _⟩ (⟨rfl, ⟨_, _, _, _, _, _, _, _, _, _, _, _, _, _, _, _, _, _, _, _, _, _, _, _, _, _, _, _, _, f1_98, ⟨f1_99, lP⟩, ⟨f1_100, lRo⟩, ⟨f1_101, lU⟩, ⟨f1_102, lrf⟩, ⟨f1_103, lWM⟩, ⟨f1_104, lWP⟩, ⟨f1_105, lWR⟩, ⟨f1_106, lTr⟩, ⟨f1_107, lKe⟩, ⟨f1_108, lCo⟩, ⟨f1_109, lTh⟩, ⟨f1_110, lBe⟩, ⟨f1_111, lW2⟩, ⟨f1_112, lAP⟩, ⟨f1_113, lAR⟩, ⟨f1_114, lAU⟩, ⟨f1_115, lSz⟩, ⟨f1_116, lIt⟩, ⟨f1_117, lIP⟩, ⟨f1_118, lIR⟩, ⟨f1_119, lIU⟩, vP, vR, vU, vF, vH, rfl, vS, vI, vG⟩, (fun q hq => by rw [s1 q (by omega)])⟩)

set_option maxRecDepth 100000 in
set_option maxHeartbeats 4000000 in
theorem ev_y_text_n {h : List aC} {σ : Sg} (H : RM h σ) (ok : okSg σ) (ew : wp σ.2.1.2 σ.2.1.1 0 0 = none) : Ev mX9_text 4 0 0 [.ref 98] h (spM h (oText σ)) := by
  obtain ⟨fo, as_, sm, sk, z, iN, iM, iT, P, Ro, U, rf, WM, WP, WR, Tr, Ke, Co, Th, Be, Le, AP, AR, AU, Sz, It, IP, IR, IU, mO, mP, mRo, mU, mrf, mWM, mWP, mWR, mTr, mKe, mCo, mTh, mBe, mLe, mAP, mAR, mAU, mSz, mIt, mIP, mIR, mIU, vP, vR, vU, vF, vH, vL, vS, vI, vG⟩ := id H
  have mO : rd h 98 = some (.inr (9, [.int (nI σ.1.1), .int (nI σ.1.2.1), .ref 99, .ref 100, .ref 101, .int (nI σ.1.2.2.2.1), .ref 102, .int (nI ((σ.2.2.2.1).length)), .ref 103, .ref 104, .ref 105, .int fo, .int as_, .int sm, .int sk, .ref 106, .ref 107, .ref 108, .int z, .ref 109, .ref 110, .ref 111, .int (nI σ.2.1.1), .ref 112, .ref 113, .ref 114, .ref 115, .ref 116, .int (nI (bI σ.2.2.2.2.1.isSome)), .int iN, .int iM, .int iT, .ref 117, .ref 118, .ref 119])) := mO
  obtain ⟨mP, lP⟩ := mP
  obtain ⟨mRo, lRo⟩ := mRo
  obtain ⟨mU, lU⟩ := mU
  obtain ⟨mrf, lrf⟩ := mrf
  obtain ⟨mWM, lWM⟩ := mWM
  obtain ⟨mWP, lWP⟩ := mWP
  obtain ⟨mWR, lWR⟩ := mWR
  obtain ⟨mTr, lTr⟩ := mTr
  obtain ⟨mKe, lKe⟩ := mKe
  obtain ⟨mCo, lCo⟩ := mCo
  obtain ⟨mTh, lTh⟩ := mTh
  obtain ⟨mBe, lBe⟩ := mBe
  obtain ⟨mLe, lLe⟩ := mLe
  obtain ⟨mAP, lAP⟩ := mAP
  obtain ⟨mAR, lAR⟩ := mAR
  obtain ⟨mAU, lAU⟩ := mAU
  obtain ⟨mSz, lSz⟩ := mSz
  obtain ⟨mIt, lIt⟩ := mIt
  obtain ⟨mIP, lIP⟩ := mIP
  obtain ⟨mIR, lIR⟩ := mIR
  obtain ⟨mIU, lIU⟩ := mIU
  obtain ⟨okc, ⟨okl, okw⟩, okn, ⟨okh, oke⟩, oki, okr⟩ := id ok
  obtain ⟨k1, k2, k3, k4, k5, k6, k7, k8, k9⟩ := id okc
  have lW : σ.2.1.2.length = 72 := by have z := lLe; rw [vL, List.length_map] at z; exact z
  have mLe : rd h 111 = some (.inl (σ.2.1.2.map nI)) := by rw [← vL]; exact mLe
  have lW2 : (σ.2.1.2.map nI).length = 72 := by rw [List.length_map]; exact lW
  have okw2 := okw
  refine Ev.of pX9_text (Nat.le_of_ble_eq_true rfl) ?_
  show G mX9_text (rmD 4 0 0) none _ 0 0 0 [(0, .ref 98)] [] h
  refine g_aload_n dX9_text_0 0 rfl ?_
  refine g_callVp dX9_text_1 (ev_wrongP (show MO h _ _ _ _ _ _ _ _ _ _ _ _ _ _ from mO) mLe lW okl okw) oX9_wrongPlace wiX9_wrongPlace weX9_wrongPlace wmX9_251 kX9 (mO) rfl ⟨(Nat.le_of_ble_eq_true rfl), (Nat.le_of_ble_eq_true rfl)⟩ ⟨Nat.zero_le _, Nat.zero_le _⟩ (Nat.le_of_ble_eq_true rfl) rfl ?_
  refine g_top (show wI (wp σ.2.1.2 σ.2.1.1 0 0) = -1 from by rw [ew]; rfl) ?_
  refine g_istore_n (ls' := [(1, .int (-1)), (0, .ref 98)]) dX9_text_4 (Nat.le_of_ble_eq_true rfl) rfl ?_
  refine g_iload_n dX9_text_5 0 rfl ?_
  refine g_if_lt 20 dX9_text_6 (by decide) (fun c6 => ?_) (fun z => absurd z (by decide))
  refine g_aload_n dX9_text_20 1 rfl ?_
  refine g_getf dX9_text_21 kX9 wfX9_7 (Nat.le_of_ble_eq_true rfl) (mO) rfl ?_
  refine g_istore_n (ls' := [(2, .int (nI σ.1.1)), (1, .int (-1)), (0, .ref 98)]) dX9_text_24 (Nat.le_of_ble_eq_true rfl) rfl ?_
  refine g_aload_n dX9_text_25 2 rfl ?_
  refine g_getf dX9_text_26 kX9 wfX9_87 (Nat.le_of_ble_eq_true rfl) (mO) rfl ?_
  refine g_istore_n (ls' := [(3, .int (nI σ.1.2.1)), (2, .int (nI σ.1.1)), (1, .int (-1)), (0, .ref 98)]) dX9_text_29 (Nat.le_of_ble_eq_true rfl) rfl ?_
  refine g_aload_n dX9_text_30 3 rfl ?_
  refine g_getf dX9_text_31 kX9 wfX9_102 (Nat.le_of_ble_eq_true rfl) (mO) rfl ?_
  refine g_istore (ls' := [(4, .int (nI σ.1.2.2.2.1)), (3, .int (nI σ.1.2.1)), (2, .int (nI σ.1.1)), (1, .int (-1)), (0, .ref 98)]) dX9_text_34 (Nat.le_of_ble_eq_true rfl) rfl ?_
  refine g_aload_n dX9_text_36 4 rfl ?_
  refine g_getf dX9_text_37 kX9 wfX9_80 (Nat.le_of_ble_eq_true rfl) (mO) rfl ?_
  refine g_istore (ls' := [(5, .int (nI ((σ.2.2.2.1).length))), (4, .int (nI σ.1.2.2.2.1)), (3, .int (nI σ.1.2.1)), (2, .int (nI σ.1.1)), (1, .int (-1)), (0, .ref 98)]) dX9_text_40 (Nat.le_of_ble_eq_true rfl) rfl ?_
  refine g_aload_n dX9_text_42 5 rfl ?_
  refine g_getf dX9_text_43 kX9 wfX9_13 (Nat.le_of_ble_eq_true rfl) (mO) rfl ?_
  refine g_iconst (v := nI 0) dX9_text_46 (by decide +kernel) ?_
  refine g_aload_n dX9_text_47 5 rfl ?_
  refine g_getf dX9_text_48 kX9 wfX9_53 (Nat.le_of_ble_eq_true rfl) (mO) rfl ?_
  refine g_iconst (v := nI 0) dX9_text_51 (by decide +kernel) ?_
  refine g_bipush (v := nI 18) dX9_text_52 (by decide +kernel) ?_
  have la1 : (P).length = 18 := lP
  have lb1 : (AP).length = 18 := lAP
  refine g_callSq (st1 := []) dX9_text_54 (ev_mlays (a := 0) (b := 0) (s := 18) (show 99 ≠ 112 by decide) (by omega) (by omega) ⟨by omega, by omega⟩ (mP) (mAP)) oX9_lays wsX9_lays wmX9_83 rfl ⟨(Nat.le_of_ble_eq_true rfl), (Nat.le_of_ble_eq_true rfl)⟩ ⟨Nat.zero_le _, Nat.zero_le _⟩ (Nat.le_of_ble_eq_true rfl) rfl rfl (fun h2 q2 => ?_)
  obtain ⟨q2a, q2s⟩ := q2
  have f2_98 : rd h2 98 = some (.inr (9, [.int (nI σ.1.1), .int (nI σ.1.2.1), .ref 99, .ref 100, .ref 101, .int (nI σ.1.2.2.2.1), .ref 102, .int (nI ((σ.2.2.2.1).length)), .ref 103, .ref 104, .ref 105, .int fo, .int as_, .int sm, .int sk, .ref 106, .ref 107, .ref 108, .int z, .ref 109, .ref 110, .ref 111, .int (nI σ.2.1.1), .ref 112, .ref 113, .ref 114, .ref 115, .ref 116, .int (nI (bI σ.2.2.2.2.1.isSome)), .int iN, .int iM, .int iT, .ref 117, .ref 118, .ref 119])) := by rw [q2s _ (by omega)]; exact mO
  have f2_99 : rd h2 99 = some (.inl (P)) := by rw [q2s _ (by omega)]; exact mP
  have f2_100 : rd h2 100 = some (.inl (Ro)) := by rw [q2s _ (by omega)]; exact mRo
  have f2_101 : rd h2 101 = some (.inl (U)) := by rw [q2s _ (by omega)]; exact mU
  have f2_102 : rd h2 102 = some (.inl (rf)) := by rw [q2s _ (by omega)]; exact mrf
  have f2_103 : rd h2 103 = some (.inl (WM)) := by rw [q2s _ (by omega)]; exact mWM
  have f2_104 : rd h2 104 = some (.inl (WP)) := by rw [q2s _ (by omega)]; exact mWP
  have f2_105 : rd h2 105 = some (.inl (WR)) := by rw [q2s _ (by omega)]; exact mWR
  have f2_106 : rd h2 106 = some (.inl (Tr)) := by rw [q2s _ (by omega)]; exact mTr
  have f2_107 : rd h2 107 = some (.inl (Ke)) := by rw [q2s _ (by omega)]; exact mKe
  have f2_108 : rd h2 108 = some (.inl (Co)) := by rw [q2s _ (by omega)]; exact mCo
  have f2_109 : rd h2 109 = some (.inl (Th)) := by rw [q2s _ (by omega)]; exact mTh
  have f2_110 : rd h2 110 = some (.inl (Be)) := by rw [q2s _ (by omega)]; exact mBe
  have f2_111 : rd h2 111 = some (.inl (σ.2.1.2.map nI)) := by rw [q2s _ (by omega)]; exact mLe
  have f2_113 : rd h2 113 = some (.inl (AR)) := by rw [q2s _ (by omega)]; exact mAR
  have f2_114 : rd h2 114 = some (.inl (AU)) := by rw [q2s _ (by omega)]; exact mAU
  have f2_115 : rd h2 115 = some (.inl (Sz)) := by rw [q2s _ (by omega)]; exact mSz
  have f2_116 : rd h2 116 = some (.inl (It)) := by rw [q2s _ (by omega)]; exact mIt
  have f2_117 : rd h2 117 = some (.inl (IP)) := by rw [q2s _ (by omega)]; exact mIP
  have f2_118 : rd h2 118 = some (.inl (IR)) := by rw [q2s _ (by omega)]; exact mIR
  have f2_119 : rd h2 119 = some (.inl (IU)) := by rw [q2s _ (by omega)]; exact mIU
  refine g_aload_n dX9_text_57 5 rfl ?_
  refine g_getf dX9_text_58 kX9 wfX9_17 (Nat.le_of_ble_eq_true rfl) (f2_98) rfl ?_
  refine g_iconst (v := nI 0) dX9_text_61 (by decide +kernel) ?_
  refine g_aload_n dX9_text_62 5 rfl ?_
  refine g_getf dX9_text_63 kX9 wfX9_56 (Nat.le_of_ble_eq_true rfl) (f2_98) rfl ?_
  refine g_iconst (v := nI 0) dX9_text_66 (by decide +kernel) ?_
  refine g_sipush (v := nI 338) dX9_text_67 (by decide +kernel) ?_
  have la3 : (Ro).length = 338 := lRo
  have lb3 : (AR).length = 338 := lAR
  refine g_callSq (st1 := []) dX9_text_70 (ev_mlays (a := 0) (b := 0) (s := 338) (show 100 ≠ 113 by decide) (by omega) (by omega) ⟨by omega, by omega⟩ (f2_100) (f2_113)) oX9_lays wsX9_lays wmX9_83 rfl ⟨(Nat.le_of_ble_eq_true rfl), (Nat.le_of_ble_eq_true rfl)⟩ ⟨Nat.zero_le _, Nat.zero_le _⟩ (Nat.le_of_ble_eq_true rfl) rfl rfl (fun h4 q4 => ?_)
  obtain ⟨q4a, q4s⟩ := q4
  have f4_98 : rd h4 98 = some (.inr (9, [.int (nI σ.1.1), .int (nI σ.1.2.1), .ref 99, .ref 100, .ref 101, .int (nI σ.1.2.2.2.1), .ref 102, .int (nI ((σ.2.2.2.1).length)), .ref 103, .ref 104, .ref 105, .int fo, .int as_, .int sm, .int sk, .ref 106, .ref 107, .ref 108, .int z, .ref 109, .ref 110, .ref 111, .int (nI σ.2.1.1), .ref 112, .ref 113, .ref 114, .ref 115, .ref 116, .int (nI (bI σ.2.2.2.2.1.isSome)), .int iN, .int iM, .int iT, .ref 117, .ref 118, .ref 119])) := by rw [q4s _ (by omega)]; exact f2_98
  have f4_99 : rd h4 99 = some (.inl (P)) := by rw [q4s _ (by omega)]; exact f2_99
  have f4_100 : rd h4 100 = some (.inl (Ro)) := by rw [q4s _ (by omega)]; exact f2_100
  have f4_101 : rd h4 101 = some (.inl (U)) := by rw [q4s _ (by omega)]; exact f2_101
  have f4_102 : rd h4 102 = some (.inl (rf)) := by rw [q4s _ (by omega)]; exact f2_102
  have f4_103 : rd h4 103 = some (.inl (WM)) := by rw [q4s _ (by omega)]; exact f2_103
  have f4_104 : rd h4 104 = some (.inl (WP)) := by rw [q4s _ (by omega)]; exact f2_104
  have f4_105 : rd h4 105 = some (.inl (WR)) := by rw [q4s _ (by omega)]; exact f2_105
  have f4_106 : rd h4 106 = some (.inl (Tr)) := by rw [q4s _ (by omega)]; exact f2_106
  have f4_107 : rd h4 107 = some (.inl (Ke)) := by rw [q4s _ (by omega)]; exact f2_107
  have f4_108 : rd h4 108 = some (.inl (Co)) := by rw [q4s _ (by omega)]; exact f2_108
  have f4_109 : rd h4 109 = some (.inl (Th)) := by rw [q4s _ (by omega)]; exact f2_109
  have f4_110 : rd h4 110 = some (.inl (Be)) := by rw [q4s _ (by omega)]; exact f2_110
  have f4_111 : rd h4 111 = some (.inl (σ.2.1.2.map nI)) := by rw [q4s _ (by omega)]; exact f2_111
  have f4_114 : rd h4 114 = some (.inl (AU)) := by rw [q4s _ (by omega)]; exact f2_114
  have f4_115 : rd h4 115 = some (.inl (Sz)) := by rw [q4s _ (by omega)]; exact f2_115
  have f4_116 : rd h4 116 = some (.inl (It)) := by rw [q4s _ (by omega)]; exact f2_116
  have f4_117 : rd h4 117 = some (.inl (IP)) := by rw [q4s _ (by omega)]; exact f2_117
  have f4_118 : rd h4 118 = some (.inl (IR)) := by rw [q4s _ (by omega)]; exact f2_118
  have f4_119 : rd h4 119 = some (.inl (IU)) := by rw [q4s _ (by omega)]; exact f2_119
  have f4_112 : rd h4 112 = some (.inl (cpL (P) 0 (AP) 0 18)) := by rw [q4s _ (by omega)]; exact q2a
  refine g_aload_n dX9_text_73 5 rfl ?_
  refine g_getf dX9_text_74 kX9 wfX9_20 (Nat.le_of_ble_eq_true rfl) (f4_98) rfl ?_
  refine g_iconst (v := nI 0) dX9_text_77 (by decide +kernel) ?_
  refine g_aload_n dX9_text_78 5 rfl ?_
  refine g_getf dX9_text_79 kX9 wfX9_59 (Nat.le_of_ble_eq_true rfl) (f4_98) rfl ?_
  refine g_iconst (v := nI 0) dX9_text_82 (by decide +kernel) ?_
  refine g_bipush (v := nI 12) dX9_text_83 (by decide +kernel) ?_
  have la5 : (U).length = 12 := lU
  have lb5 : (AU).length = 12 := lAU
  refine g_callSq (st1 := []) dX9_text_85 (ev_mlays (a := 0) (b := 0) (s := 12) (show 101 ≠ 114 by decide) (by omega) (by omega) ⟨by omega, by omega⟩ (f4_101) (f4_114)) oX9_lays wsX9_lays wmX9_83 rfl ⟨(Nat.le_of_ble_eq_true rfl), (Nat.le_of_ble_eq_true rfl)⟩ ⟨Nat.zero_le _, Nat.zero_le _⟩ (Nat.le_of_ble_eq_true rfl) rfl rfl (fun h6 q6 => ?_)
  obtain ⟨q6a, q6s⟩ := q6
  have f6_98 : rd h6 98 = some (.inr (9, [.int (nI σ.1.1), .int (nI σ.1.2.1), .ref 99, .ref 100, .ref 101, .int (nI σ.1.2.2.2.1), .ref 102, .int (nI ((σ.2.2.2.1).length)), .ref 103, .ref 104, .ref 105, .int fo, .int as_, .int sm, .int sk, .ref 106, .ref 107, .ref 108, .int z, .ref 109, .ref 110, .ref 111, .int (nI σ.2.1.1), .ref 112, .ref 113, .ref 114, .ref 115, .ref 116, .int (nI (bI σ.2.2.2.2.1.isSome)), .int iN, .int iM, .int iT, .ref 117, .ref 118, .ref 119])) := by rw [q6s _ (by omega)]; exact f4_98
  have f6_99 : rd h6 99 = some (.inl (P)) := by rw [q6s _ (by omega)]; exact f4_99
  have f6_100 : rd h6 100 = some (.inl (Ro)) := by rw [q6s _ (by omega)]; exact f4_100
  have f6_101 : rd h6 101 = some (.inl (U)) := by rw [q6s _ (by omega)]; exact f4_101
  have f6_102 : rd h6 102 = some (.inl (rf)) := by rw [q6s _ (by omega)]; exact f4_102
  have f6_103 : rd h6 103 = some (.inl (WM)) := by rw [q6s _ (by omega)]; exact f4_103
  have f6_104 : rd h6 104 = some (.inl (WP)) := by rw [q6s _ (by omega)]; exact f4_104
  have f6_105 : rd h6 105 = some (.inl (WR)) := by rw [q6s _ (by omega)]; exact f4_105
  have f6_106 : rd h6 106 = some (.inl (Tr)) := by rw [q6s _ (by omega)]; exact f4_106
  have f6_107 : rd h6 107 = some (.inl (Ke)) := by rw [q6s _ (by omega)]; exact f4_107
  have f6_108 : rd h6 108 = some (.inl (Co)) := by rw [q6s _ (by omega)]; exact f4_108
  have f6_109 : rd h6 109 = some (.inl (Th)) := by rw [q6s _ (by omega)]; exact f4_109
  have f6_110 : rd h6 110 = some (.inl (Be)) := by rw [q6s _ (by omega)]; exact f4_110
  have f6_111 : rd h6 111 = some (.inl (σ.2.1.2.map nI)) := by rw [q6s _ (by omega)]; exact f4_111
  have f6_115 : rd h6 115 = some (.inl (Sz)) := by rw [q6s _ (by omega)]; exact f4_115
  have f6_116 : rd h6 116 = some (.inl (It)) := by rw [q6s _ (by omega)]; exact f4_116
  have f6_117 : rd h6 117 = some (.inl (IP)) := by rw [q6s _ (by omega)]; exact f4_117
  have f6_118 : rd h6 118 = some (.inl (IR)) := by rw [q6s _ (by omega)]; exact f4_118
  have f6_119 : rd h6 119 = some (.inl (IU)) := by rw [q6s _ (by omega)]; exact f4_119
  have f6_112 : rd h6 112 = some (.inl (cpL (P) 0 (AP) 0 18)) := by rw [q6s _ (by omega)]; exact f4_112
  have f6_113 : rd h6 113 = some (.inl (cpL (Ro) 0 (AR) 0 338)) := by rw [q6s _ (by omega)]; exact q4a
  refine g_iconst (v := nI 0) dX9_text_88 (by decide +kernel) ?_
  refine g_istore (ls' := [(6, .int (nI 0)), (5, .int (nI ((σ.2.2.2.1).length))), (4, .int (nI σ.1.2.2.2.1)), (3, .int (nI σ.1.2.1)), (2, .int (nI σ.1.1)), (1, .int (-1)), (0, .ref 98)]) dX9_text_89 (Nat.le_of_ble_eq_true rfl) rfl ?_
  refine g_iconst (v := nI 0) dX9_text_91 (by decide +kernel) ?_
  refine g_istore (ls' := [(7, .int (nI 0)), (6, .int (nI 0)), (5, .int (nI ((σ.2.2.2.1).length))), (4, .int (nI σ.1.2.2.2.1)), (3, .int (nI σ.1.2.1)), (2, .int (nI σ.1.1)), (1, .int (-1)), (0, .ref 98)]) dX9_text_92 (Nat.le_of_ble_eq_true rfl) rfl ?_
  refine g_lsub_ (ls2 := [(7, .int (nI 0)), (6, .int (nI 0)), (0, .ref 98), (1, .int (-1)), (2, .int (nI σ.1.1)), (3, .int (nI σ.1.2.1)), (4, .int (nI σ.1.2.2.2.1)), (5, .int (nI ((σ.2.2.2.1).length)))]) [0, 1, 7, 6, 5, 4, 3, 2] rfl ?_
  refine lp_txt (W := σ.2.1.2) (res := tRun σ.2.1.2 σ.2.1.1 σ.2.1.1 0 0 σ.1) (show rd h6 111 = some (.inl (σ.2.1.2.map nI)) from f6_111) lW okl okw (fun hq cq deq Pq Rq Uq qq iq HCq erq sq => ?_) (fun hq cq deq Pq Rq Uq qq iq HCq erq ilq sq => ?_) σ.2.1.1 0 _ 0 σ.1 _ _ _ _ (by omega) (by omega) (by omega) rfl ⟨f6_98, f6_99, lP, vP, f6_100, lRo, vR, f6_101, lU, vU⟩ okc ⟨by omega, ew⟩ Smo.rf
  · rw [oText_s ew erq]
    obtain ⟨oq, pq, lpq, vpq, rq, lrq, vrq, uq, luq, vuq⟩ := HCq
    have f99_102 : rd hq 102 = some (.inl (rf)) := by rw [sq _ (by omega)]; exact f6_102
    have f99_103 : rd hq 103 = some (.inl (WM)) := by rw [sq _ (by omega)]; exact f6_103
    have f99_104 : rd hq 104 = some (.inl (WP)) := by rw [sq _ (by omega)]; exact f6_104
    have f99_105 : rd hq 105 = some (.inl (WR)) := by rw [sq _ (by omega)]; exact f6_105
    have f99_106 : rd hq 106 = some (.inl (Tr)) := by rw [sq _ (by omega)]; exact f6_106
    have f99_107 : rd hq 107 = some (.inl (Ke)) := by rw [sq _ (by omega)]; exact f6_107
    have f99_108 : rd hq 108 = some (.inl (Co)) := by rw [sq _ (by omega)]; exact f6_108
    have f99_109 : rd hq 109 = some (.inl (Th)) := by rw [sq _ (by omega)]; exact f6_109
    have f99_110 : rd hq 110 = some (.inl (Be)) := by rw [sq _ (by omega)]; exact f6_110
    have f99_111 : rd hq 111 = some (.inl (σ.2.1.2.map nI)) := by rw [sq _ (by omega)]; exact f6_111
    have f99_115 : rd hq 115 = some (.inl (Sz)) := by rw [sq _ (by omega)]; exact f6_115
    have f99_116 : rd hq 116 = some (.inl (It)) := by rw [sq _ (by omega)]; exact f6_116
    have f99_117 : rd hq 117 = some (.inl (IP)) := by rw [sq _ (by omega)]; exact f6_117
    have f99_118 : rd hq 118 = some (.inl (IR)) := by rw [sq _ (by omega)]; exact f6_118
    have f99_119 : rd hq 119 = some (.inl (IU)) := by rw [sq _ (by omega)]; exact f6_119
    have f99_112 : rd hq 112 = some (.inl (cpL (P) 0 (AP) 0 18)) := by rw [sq _ (by omega)]; exact f6_112
    have f99_113 : rd hq 113 = some (.inl (cpL (Ro) 0 (AR) 0 338)) := by rw [sq _ (by omega)]; exact f6_113
    have f99_114 : rd hq 114 = some (.inl (cpL (U) 0 (AU) 0 12)) := by rw [sq _ (by omega)]; exact q6a
    have oq : rd hq 98 = some (.inr (9, [.int (nI cq.1), .int (nI cq.2.1), .ref 99, .ref 100, .ref 101, .int (nI cq.2.2.2.1), .ref 102, .int (nI deq), .ref 103, .ref 104, .ref 105, .int fo, .int as_, .int sm, .int sk, .ref 106, .ref 107, .ref 108, .int z, .ref 109, .ref 110, .ref 111, .int (nI σ.2.1.1), .ref 112, .ref 113, .ref 114, .ref 115, .ref 116, .int (nI (bI σ.2.2.2.2.1.isSome)), .int iN, .int iM, .int iT, .ref 117, .ref 118, .ref 119])) := oq
    refine g_aload_n dX9_text_215 2 rfl ?_
    refine g_iconst (v := nI 0) dX9_text_216 (by decide +kernel) ?_
    refine g_putv dX9_text_217 kX9 wfX9_238 (Nat.le_of_ble_eq_true rfl) rfl (fun _ _ => ⟨rfl, rfl⟩) (oq) (Nat.le_of_ble_eq_true rfl) (fs' := [.int (nI cq.1), .int (nI cq.2.1), .ref 99, .ref 100, .ref 101, .int (nI cq.2.2.2.1), .ref 102, .int (nI deq), .ref 103, .ref 104, .ref 105, .int fo, .int as_, .int sm, .int sk, .ref 106, .ref 107, .ref 108, .int z, .ref 109, .ref 110, .ref 111, .int (nI 0), .ref 112, .ref 113, .ref 114, .ref 115, .ref 116, .int (nI (bI σ.2.2.2.2.1.isSome)), .int iN, .int iM, .int iT, .ref 117, .ref 118, .ref 119]) rfl (fun h7 e7 => ?_)
    have f7_98 : rd h7 98 = some (.inr (9, [.int (nI cq.1), .int (nI cq.2.1), .ref 99, .ref 100, .ref 101, .int (nI cq.2.2.2.1), .ref 102, .int (nI deq), .ref 103, .ref 104, .ref 105, .int fo, .int as_, .int sm, .int sk, .ref 106, .ref 107, .ref 108, .int z, .ref 109, .ref 110, .ref 111, .int (nI 0), .ref 112, .ref 113, .ref 114, .ref 115, .ref 116, .int (nI (bI σ.2.2.2.2.1.isSome)), .int iN, .int iM, .int iT, .ref 117, .ref 118, .ref 119])) := by rw [e7]; exact rd_wr_eq (oq)
    have s7 : Smo 98 (98 + 1) hq h7 := by rw [e7]; exact Smo.wr (by omega) (by omega)
    have f7_102 : rd h7 102 = some (.inl (rf)) := by rw [s7 _ (by omega)]; exact f99_102
    have f7_103 : rd h7 103 = some (.inl (WM)) := by rw [s7 _ (by omega)]; exact f99_103
    have f7_104 : rd h7 104 = some (.inl (WP)) := by rw [s7 _ (by omega)]; exact f99_104
    have f7_105 : rd h7 105 = some (.inl (WR)) := by rw [s7 _ (by omega)]; exact f99_105
    have f7_106 : rd h7 106 = some (.inl (Tr)) := by rw [s7 _ (by omega)]; exact f99_106
    have f7_107 : rd h7 107 = some (.inl (Ke)) := by rw [s7 _ (by omega)]; exact f99_107
    have f7_108 : rd h7 108 = some (.inl (Co)) := by rw [s7 _ (by omega)]; exact f99_108
    have f7_109 : rd h7 109 = some (.inl (Th)) := by rw [s7 _ (by omega)]; exact f99_109
    have f7_110 : rd h7 110 = some (.inl (Be)) := by rw [s7 _ (by omega)]; exact f99_110
    have f7_111 : rd h7 111 = some (.inl (σ.2.1.2.map nI)) := by rw [s7 _ (by omega)]; exact f99_111
    have f7_115 : rd h7 115 = some (.inl (Sz)) := by rw [s7 _ (by omega)]; exact f99_115
    have f7_116 : rd h7 116 = some (.inl (It)) := by rw [s7 _ (by omega)]; exact f99_116
    have f7_117 : rd h7 117 = some (.inl (IP)) := by rw [s7 _ (by omega)]; exact f99_117
    have f7_118 : rd h7 118 = some (.inl (IR)) := by rw [s7 _ (by omega)]; exact f99_118
    have f7_119 : rd h7 119 = some (.inl (IU)) := by rw [s7 _ (by omega)]; exact f99_119
    have f7_112 : rd h7 112 = some (.inl (cpL (P) 0 (AP) 0 18)) := by rw [s7 _ (by omega)]; exact f99_112
    have f7_113 : rd h7 113 = some (.inl (cpL (Ro) 0 (AR) 0 338)) := by rw [s7 _ (by omega)]; exact f99_113
    have f7_114 : rd h7 114 = some (.inl (cpL (U) 0 (AU) 0 12)) := by rw [s7 _ (by omega)]; exact f99_114
    have f7_99 : rd h7 99 = some (.inl (Pq)) := by rw [s7 _ (by omega)]; exact pq
    have f7_100 : rd h7 100 = some (.inl (Rq)) := by rw [s7 _ (by omega)]; exact rq
    have f7_101 : rd h7 101 = some (.inl (Uq)) := by rw [s7 _ (by omega)]; exact uq
    refine g_aload_n dX9_text_220 2 rfl ?_
    refine g_iconst (v := nI 0) dX9_text_221 (by decide +kernel) ?_
    refine g_putv dX9_text_222 kX9 wfX9_80 (Nat.le_of_ble_eq_true rfl) rfl (fun _ _ => ⟨rfl, rfl⟩) (f7_98) (Nat.le_of_ble_eq_true rfl) (fs' := [.int (nI cq.1), .int (nI cq.2.1), .ref 99, .ref 100, .ref 101, .int (nI cq.2.2.2.1), .ref 102, .int (nI 0), .ref 103, .ref 104, .ref 105, .int fo, .int as_, .int sm, .int sk, .ref 106, .ref 107, .ref 108, .int z, .ref 109, .ref 110, .ref 111, .int (nI 0), .ref 112, .ref 113, .ref 114, .ref 115, .ref 116, .int (nI (bI σ.2.2.2.2.1.isSome)), .int iN, .int iM, .int iT, .ref 117, .ref 118, .ref 119]) rfl (fun h8 e8 => ?_)
    have f8_98 : rd h8 98 = some (.inr (9, [.int (nI cq.1), .int (nI cq.2.1), .ref 99, .ref 100, .ref 101, .int (nI cq.2.2.2.1), .ref 102, .int (nI 0), .ref 103, .ref 104, .ref 105, .int fo, .int as_, .int sm, .int sk, .ref 106, .ref 107, .ref 108, .int z, .ref 109, .ref 110, .ref 111, .int (nI 0), .ref 112, .ref 113, .ref 114, .ref 115, .ref 116, .int (nI (bI σ.2.2.2.2.1.isSome)), .int iN, .int iM, .int iT, .ref 117, .ref 118, .ref 119])) := by rw [e8]; exact rd_wr_eq (f7_98)
    have s8 : Smo 98 (98 + 1) h7 h8 := by rw [e8]; exact Smo.wr (by omega) (by omega)
    have f8_102 : rd h8 102 = some (.inl (rf)) := by rw [s8 _ (by omega)]; exact f7_102
    have f8_103 : rd h8 103 = some (.inl (WM)) := by rw [s8 _ (by omega)]; exact f7_103
    have f8_104 : rd h8 104 = some (.inl (WP)) := by rw [s8 _ (by omega)]; exact f7_104
    have f8_105 : rd h8 105 = some (.inl (WR)) := by rw [s8 _ (by omega)]; exact f7_105
    have f8_106 : rd h8 106 = some (.inl (Tr)) := by rw [s8 _ (by omega)]; exact f7_106
    have f8_107 : rd h8 107 = some (.inl (Ke)) := by rw [s8 _ (by omega)]; exact f7_107
    have f8_108 : rd h8 108 = some (.inl (Co)) := by rw [s8 _ (by omega)]; exact f7_108
    have f8_109 : rd h8 109 = some (.inl (Th)) := by rw [s8 _ (by omega)]; exact f7_109
    have f8_110 : rd h8 110 = some (.inl (Be)) := by rw [s8 _ (by omega)]; exact f7_110
    have f8_111 : rd h8 111 = some (.inl (σ.2.1.2.map nI)) := by rw [s8 _ (by omega)]; exact f7_111
    have f8_115 : rd h8 115 = some (.inl (Sz)) := by rw [s8 _ (by omega)]; exact f7_115
    have f8_116 : rd h8 116 = some (.inl (It)) := by rw [s8 _ (by omega)]; exact f7_116
    have f8_117 : rd h8 117 = some (.inl (IP)) := by rw [s8 _ (by omega)]; exact f7_117
    have f8_118 : rd h8 118 = some (.inl (IR)) := by rw [s8 _ (by omega)]; exact f7_118
    have f8_119 : rd h8 119 = some (.inl (IU)) := by rw [s8 _ (by omega)]; exact f7_119
    have f8_112 : rd h8 112 = some (.inl (cpL (P) 0 (AP) 0 18)) := by rw [s8 _ (by omega)]; exact f7_112
    have f8_113 : rd h8 113 = some (.inl (cpL (Ro) 0 (AR) 0 338)) := by rw [s8 _ (by omega)]; exact f7_113
    have f8_114 : rd h8 114 = some (.inl (cpL (U) 0 (AU) 0 12)) := by rw [s8 _ (by omega)]; exact f7_114
    have f8_99 : rd h8 99 = some (.inl (Pq)) := by rw [s8 _ (by omega)]; exact f7_99
    have f8_100 : rd h8 100 = some (.inl (Rq)) := by rw [s8 _ (by omega)]; exact f7_100
    have f8_101 : rd h8 101 = some (.inl (Uq)) := by rw [s8 _ (by omega)]; exact f7_101
    refine g_iload dX9_text_225 1 rfl ?_
    exact g_iret dX9_text_227 rfl ⟨Nat.zero_le _, Nat.zero_le _⟩ (⟨rfl, ⟨_, _, _, _, _, _, _, _, _, _, _, _, _, _, _, _, _, _, _, _, _, _, _, _, _, _, _, _, _, f8_98, ⟨f8_99, lpq⟩, ⟨f8_100, lrq⟩, ⟨f8_101, luq⟩, ⟨f8_102, lrf⟩, ⟨f8_103, lWM⟩, ⟨f8_104, lWP⟩, ⟨f8_105, lWR⟩, ⟨f8_106, lTr⟩, ⟨f8_107, lKe⟩, ⟨f8_108, lCo⟩, ⟨f8_109, lTh⟩, ⟨f8_110, lBe⟩, ⟨f8_111, lW2⟩, ⟨f8_112, ((cpL_len _ _ _ _ _).trans lb1)⟩, ⟨f8_113, ((cpL_len _ _ _ _ _).trans lb3)⟩, ⟨f8_114, ((cpL_len _ _ _ _ _).trans lb5)⟩, ⟨f8_115, lSz⟩, ⟨f8_116, lIt⟩, ⟨f8_117, lIP⟩, ⟨f8_118, lIR⟩, ⟨f8_119, lIU⟩, vpq, vrq, vuq, vF, (fun j hj => absurd hj (Nat.not_lt_zero j)), rfl, vS, vI, vG⟩, (fun q hq => by rw [s8 q (by omega), s7 q (by omega), sq q (by omega), q6s q (by omega), q4s q (by omega), q2s q (by omega)])⟩)
  · rw [oText_f ew erq]
    obtain ⟨oq, pq, lpq, vpq, rq, lrq, vrq, uq, luq, vuq⟩ := HCq
    have f99_102 : rd hq 102 = some (.inl (rf)) := by rw [sq _ (by omega)]; exact f6_102
    have f99_103 : rd hq 103 = some (.inl (WM)) := by rw [sq _ (by omega)]; exact f6_103
    have f99_104 : rd hq 104 = some (.inl (WP)) := by rw [sq _ (by omega)]; exact f6_104
    have f99_105 : rd hq 105 = some (.inl (WR)) := by rw [sq _ (by omega)]; exact f6_105
    have f99_106 : rd hq 106 = some (.inl (Tr)) := by rw [sq _ (by omega)]; exact f6_106
    have f99_107 : rd hq 107 = some (.inl (Ke)) := by rw [sq _ (by omega)]; exact f6_107
    have f99_108 : rd hq 108 = some (.inl (Co)) := by rw [sq _ (by omega)]; exact f6_108
    have f99_109 : rd hq 109 = some (.inl (Th)) := by rw [sq _ (by omega)]; exact f6_109
    have f99_110 : rd hq 110 = some (.inl (Be)) := by rw [sq _ (by omega)]; exact f6_110
    have f99_111 : rd hq 111 = some (.inl (σ.2.1.2.map nI)) := by rw [sq _ (by omega)]; exact f6_111
    have f99_115 : rd hq 115 = some (.inl (Sz)) := by rw [sq _ (by omega)]; exact f6_115
    have f99_116 : rd hq 116 = some (.inl (It)) := by rw [sq _ (by omega)]; exact f6_116
    have f99_117 : rd hq 117 = some (.inl (IP)) := by rw [sq _ (by omega)]; exact f6_117
    have f99_118 : rd hq 118 = some (.inl (IR)) := by rw [sq _ (by omega)]; exact f6_118
    have f99_119 : rd hq 119 = some (.inl (IU)) := by rw [sq _ (by omega)]; exact f6_119
    have f99_112 : rd hq 112 = some (.inl (cpL (P) 0 (AP) 0 18)) := by rw [sq _ (by omega)]; exact f6_112
    have f99_113 : rd hq 113 = some (.inl (cpL (Ro) 0 (AR) 0 338)) := by rw [sq _ (by omega)]; exact f6_113
    have f99_114 : rd hq 114 = some (.inl (cpL (U) 0 (AU) 0 12)) := by rw [sq _ (by omega)]; exact q6a
    have oq : rd hq 98 = some (.inr (9, [.int (nI cq.1), .int (nI cq.2.1), .ref 99, .ref 100, .ref 101, .int (nI cq.2.2.2.1), .ref 102, .int (nI deq), .ref 103, .ref 104, .ref 105, .int fo, .int as_, .int sm, .int sk, .ref 106, .ref 107, .ref 108, .int z, .ref 109, .ref 110, .ref 111, .int (nI σ.2.1.1), .ref 112, .ref 113, .ref 114, .ref 115, .ref 116, .int (nI (bI σ.2.2.2.2.1.isSome)), .int iN, .int iM, .int iT, .ref 117, .ref 118, .ref 119])) := oq
    refine g_aload_n dX9_text_112 2 rfl ?_
    refine g_iload_n dX9_text_113 4 rfl ?_
    refine g_putv dX9_text_114 kX9 wfX9_7 (Nat.le_of_ble_eq_true rfl) rfl (fun _ _ => ⟨rfl, rfl⟩) (oq) (Nat.le_of_ble_eq_true rfl) (fs' := [.int (nI σ.1.1), .int (nI cq.2.1), .ref 99, .ref 100, .ref 101, .int (nI cq.2.2.2.1), .ref 102, .int (nI deq), .ref 103, .ref 104, .ref 105, .int fo, .int as_, .int sm, .int sk, .ref 106, .ref 107, .ref 108, .int z, .ref 109, .ref 110, .ref 111, .int (nI σ.2.1.1), .ref 112, .ref 113, .ref 114, .ref 115, .ref 116, .int (nI (bI σ.2.2.2.2.1.isSome)), .int iN, .int iM, .int iT, .ref 117, .ref 118, .ref 119]) rfl (fun h9 e9 => ?_)
    have f9_98 : rd h9 98 = some (.inr (9, [.int (nI σ.1.1), .int (nI cq.2.1), .ref 99, .ref 100, .ref 101, .int (nI cq.2.2.2.1), .ref 102, .int (nI deq), .ref 103, .ref 104, .ref 105, .int fo, .int as_, .int sm, .int sk, .ref 106, .ref 107, .ref 108, .int z, .ref 109, .ref 110, .ref 111, .int (nI σ.2.1.1), .ref 112, .ref 113, .ref 114, .ref 115, .ref 116, .int (nI (bI σ.2.2.2.2.1.isSome)), .int iN, .int iM, .int iT, .ref 117, .ref 118, .ref 119])) := by rw [e9]; exact rd_wr_eq (oq)
    have s9 : Smo 98 (98 + 1) hq h9 := by rw [e9]; exact Smo.wr (by omega) (by omega)
    have f9_102 : rd h9 102 = some (.inl (rf)) := by rw [s9 _ (by omega)]; exact f99_102
    have f9_103 : rd h9 103 = some (.inl (WM)) := by rw [s9 _ (by omega)]; exact f99_103
    have f9_104 : rd h9 104 = some (.inl (WP)) := by rw [s9 _ (by omega)]; exact f99_104
    have f9_105 : rd h9 105 = some (.inl (WR)) := by rw [s9 _ (by omega)]; exact f99_105
    have f9_106 : rd h9 106 = some (.inl (Tr)) := by rw [s9 _ (by omega)]; exact f99_106
    have f9_107 : rd h9 107 = some (.inl (Ke)) := by rw [s9 _ (by omega)]; exact f99_107
    have f9_108 : rd h9 108 = some (.inl (Co)) := by rw [s9 _ (by omega)]; exact f99_108
    have f9_109 : rd h9 109 = some (.inl (Th)) := by rw [s9 _ (by omega)]; exact f99_109
    have f9_110 : rd h9 110 = some (.inl (Be)) := by rw [s9 _ (by omega)]; exact f99_110
    have f9_111 : rd h9 111 = some (.inl (σ.2.1.2.map nI)) := by rw [s9 _ (by omega)]; exact f99_111
    have f9_115 : rd h9 115 = some (.inl (Sz)) := by rw [s9 _ (by omega)]; exact f99_115
    have f9_116 : rd h9 116 = some (.inl (It)) := by rw [s9 _ (by omega)]; exact f99_116
    have f9_117 : rd h9 117 = some (.inl (IP)) := by rw [s9 _ (by omega)]; exact f99_117
    have f9_118 : rd h9 118 = some (.inl (IR)) := by rw [s9 _ (by omega)]; exact f99_118
    have f9_119 : rd h9 119 = some (.inl (IU)) := by rw [s9 _ (by omega)]; exact f99_119
    have f9_112 : rd h9 112 = some (.inl (cpL (P) 0 (AP) 0 18)) := by rw [s9 _ (by omega)]; exact f99_112
    have f9_113 : rd h9 113 = some (.inl (cpL (Ro) 0 (AR) 0 338)) := by rw [s9 _ (by omega)]; exact f99_113
    have f9_114 : rd h9 114 = some (.inl (cpL (U) 0 (AU) 0 12)) := by rw [s9 _ (by omega)]; exact f99_114
    have f9_99 : rd h9 99 = some (.inl (Pq)) := by rw [s9 _ (by omega)]; exact pq
    have f9_100 : rd h9 100 = some (.inl (Rq)) := by rw [s9 _ (by omega)]; exact rq
    have f9_101 : rd h9 101 = some (.inl (Uq)) := by rw [s9 _ (by omega)]; exact uq
    refine g_aload_n dX9_text_117 2 rfl ?_
    refine g_iload_n dX9_text_118 5 rfl ?_
    refine g_putv dX9_text_119 kX9 wfX9_87 (Nat.le_of_ble_eq_true rfl) rfl (fun _ _ => ⟨rfl, rfl⟩) (f9_98) (Nat.le_of_ble_eq_true rfl) (fs' := [.int (nI σ.1.1), .int (nI σ.1.2.1), .ref 99, .ref 100, .ref 101, .int (nI cq.2.2.2.1), .ref 102, .int (nI deq), .ref 103, .ref 104, .ref 105, .int fo, .int as_, .int sm, .int sk, .ref 106, .ref 107, .ref 108, .int z, .ref 109, .ref 110, .ref 111, .int (nI σ.2.1.1), .ref 112, .ref 113, .ref 114, .ref 115, .ref 116, .int (nI (bI σ.2.2.2.2.1.isSome)), .int iN, .int iM, .int iT, .ref 117, .ref 118, .ref 119]) rfl (fun h10 e10 => ?_)
    have f10_98 : rd h10 98 = some (.inr (9, [.int (nI σ.1.1), .int (nI σ.1.2.1), .ref 99, .ref 100, .ref 101, .int (nI cq.2.2.2.1), .ref 102, .int (nI deq), .ref 103, .ref 104, .ref 105, .int fo, .int as_, .int sm, .int sk, .ref 106, .ref 107, .ref 108, .int z, .ref 109, .ref 110, .ref 111, .int (nI σ.2.1.1), .ref 112, .ref 113, .ref 114, .ref 115, .ref 116, .int (nI (bI σ.2.2.2.2.1.isSome)), .int iN, .int iM, .int iT, .ref 117, .ref 118, .ref 119])) := by rw [e10]; exact rd_wr_eq (f9_98)
    have s10 : Smo 98 (98 + 1) h9 h10 := by rw [e10]; exact Smo.wr (by omega) (by omega)
    have f10_102 : rd h10 102 = some (.inl (rf)) := by rw [s10 _ (by omega)]; exact f9_102
    have f10_103 : rd h10 103 = some (.inl (WM)) := by rw [s10 _ (by omega)]; exact f9_103
    have f10_104 : rd h10 104 = some (.inl (WP)) := by rw [s10 _ (by omega)]; exact f9_104
    have f10_105 : rd h10 105 = some (.inl (WR)) := by rw [s10 _ (by omega)]; exact f9_105
    have f10_106 : rd h10 106 = some (.inl (Tr)) := by rw [s10 _ (by omega)]; exact f9_106
    have f10_107 : rd h10 107 = some (.inl (Ke)) := by rw [s10 _ (by omega)]; exact f9_107
    have f10_108 : rd h10 108 = some (.inl (Co)) := by rw [s10 _ (by omega)]; exact f9_108
    have f10_109 : rd h10 109 = some (.inl (Th)) := by rw [s10 _ (by omega)]; exact f9_109
    have f10_110 : rd h10 110 = some (.inl (Be)) := by rw [s10 _ (by omega)]; exact f9_110
    have f10_111 : rd h10 111 = some (.inl (σ.2.1.2.map nI)) := by rw [s10 _ (by omega)]; exact f9_111
    have f10_115 : rd h10 115 = some (.inl (Sz)) := by rw [s10 _ (by omega)]; exact f9_115
    have f10_116 : rd h10 116 = some (.inl (It)) := by rw [s10 _ (by omega)]; exact f9_116
    have f10_117 : rd h10 117 = some (.inl (IP)) := by rw [s10 _ (by omega)]; exact f9_117
    have f10_118 : rd h10 118 = some (.inl (IR)) := by rw [s10 _ (by omega)]; exact f9_118
    have f10_119 : rd h10 119 = some (.inl (IU)) := by rw [s10 _ (by omega)]; exact f9_119
    have f10_112 : rd h10 112 = some (.inl (cpL (P) 0 (AP) 0 18)) := by rw [s10 _ (by omega)]; exact f9_112
    have f10_113 : rd h10 113 = some (.inl (cpL (Ro) 0 (AR) 0 338)) := by rw [s10 _ (by omega)]; exact f9_113
    have f10_114 : rd h10 114 = some (.inl (cpL (U) 0 (AU) 0 12)) := by rw [s10 _ (by omega)]; exact f9_114
    have f10_99 : rd h10 99 = some (.inl (Pq)) := by rw [s10 _ (by omega)]; exact f9_99
    have f10_100 : rd h10 100 = some (.inl (Rq)) := by rw [s10 _ (by omega)]; exact f9_100
    have f10_101 : rd h10 101 = some (.inl (Uq)) := by rw [s10 _ (by omega)]; exact f9_101
    refine g_aload_n dX9_text_122 2 rfl ?_
    refine g_iload dX9_text_123 6 rfl ?_
    refine g_putv dX9_text_125 kX9 wfX9_102 (Nat.le_of_ble_eq_true rfl) rfl (fun _ _ => ⟨rfl, rfl⟩) (f10_98) (Nat.le_of_ble_eq_true rfl) (fs' := [.int (nI σ.1.1), .int (nI σ.1.2.1), .ref 99, .ref 100, .ref 101, .int (nI σ.1.2.2.2.1), .ref 102, .int (nI deq), .ref 103, .ref 104, .ref 105, .int fo, .int as_, .int sm, .int sk, .ref 106, .ref 107, .ref 108, .int z, .ref 109, .ref 110, .ref 111, .int (nI σ.2.1.1), .ref 112, .ref 113, .ref 114, .ref 115, .ref 116, .int (nI (bI σ.2.2.2.2.1.isSome)), .int iN, .int iM, .int iT, .ref 117, .ref 118, .ref 119]) rfl (fun h11 e11 => ?_)
    have f11_98 : rd h11 98 = some (.inr (9, [.int (nI σ.1.1), .int (nI σ.1.2.1), .ref 99, .ref 100, .ref 101, .int (nI σ.1.2.2.2.1), .ref 102, .int (nI deq), .ref 103, .ref 104, .ref 105, .int fo, .int as_, .int sm, .int sk, .ref 106, .ref 107, .ref 108, .int z, .ref 109, .ref 110, .ref 111, .int (nI σ.2.1.1), .ref 112, .ref 113, .ref 114, .ref 115, .ref 116, .int (nI (bI σ.2.2.2.2.1.isSome)), .int iN, .int iM, .int iT, .ref 117, .ref 118, .ref 119])) := by rw [e11]; exact rd_wr_eq (f10_98)
    have s11 : Smo 98 (98 + 1) h10 h11 := by rw [e11]; exact Smo.wr (by omega) (by omega)
    have f11_102 : rd h11 102 = some (.inl (rf)) := by rw [s11 _ (by omega)]; exact f10_102
    have f11_103 : rd h11 103 = some (.inl (WM)) := by rw [s11 _ (by omega)]; exact f10_103
    have f11_104 : rd h11 104 = some (.inl (WP)) := by rw [s11 _ (by omega)]; exact f10_104
    have f11_105 : rd h11 105 = some (.inl (WR)) := by rw [s11 _ (by omega)]; exact f10_105
    have f11_106 : rd h11 106 = some (.inl (Tr)) := by rw [s11 _ (by omega)]; exact f10_106
    have f11_107 : rd h11 107 = some (.inl (Ke)) := by rw [s11 _ (by omega)]; exact f10_107
    have f11_108 : rd h11 108 = some (.inl (Co)) := by rw [s11 _ (by omega)]; exact f10_108
    have f11_109 : rd h11 109 = some (.inl (Th)) := by rw [s11 _ (by omega)]; exact f10_109
    have f11_110 : rd h11 110 = some (.inl (Be)) := by rw [s11 _ (by omega)]; exact f10_110
    have f11_111 : rd h11 111 = some (.inl (σ.2.1.2.map nI)) := by rw [s11 _ (by omega)]; exact f10_111
    have f11_115 : rd h11 115 = some (.inl (Sz)) := by rw [s11 _ (by omega)]; exact f10_115
    have f11_116 : rd h11 116 = some (.inl (It)) := by rw [s11 _ (by omega)]; exact f10_116
    have f11_117 : rd h11 117 = some (.inl (IP)) := by rw [s11 _ (by omega)]; exact f10_117
    have f11_118 : rd h11 118 = some (.inl (IR)) := by rw [s11 _ (by omega)]; exact f10_118
    have f11_119 : rd h11 119 = some (.inl (IU)) := by rw [s11 _ (by omega)]; exact f10_119
    have f11_112 : rd h11 112 = some (.inl (cpL (P) 0 (AP) 0 18)) := by rw [s11 _ (by omega)]; exact f10_112
    have f11_113 : rd h11 113 = some (.inl (cpL (Ro) 0 (AR) 0 338)) := by rw [s11 _ (by omega)]; exact f10_113
    have f11_114 : rd h11 114 = some (.inl (cpL (U) 0 (AU) 0 12)) := by rw [s11 _ (by omega)]; exact f10_114
    have f11_99 : rd h11 99 = some (.inl (Pq)) := by rw [s11 _ (by omega)]; exact f10_99
    have f11_100 : rd h11 100 = some (.inl (Rq)) := by rw [s11 _ (by omega)]; exact f10_100
    have f11_101 : rd h11 101 = some (.inl (Uq)) := by rw [s11 _ (by omega)]; exact f10_101
    refine g_aload_n dX9_text_128 2 rfl ?_
    refine g_iload dX9_text_129 7 rfl ?_
    refine g_putv dX9_text_131 kX9 wfX9_80 (Nat.le_of_ble_eq_true rfl) rfl (fun _ _ => ⟨rfl, rfl⟩) (f11_98) (Nat.le_of_ble_eq_true rfl) (fs' := [.int (nI σ.1.1), .int (nI σ.1.2.1), .ref 99, .ref 100, .ref 101, .int (nI σ.1.2.2.2.1), .ref 102, .int (nI ((σ.2.2.2.1).length)), .ref 103, .ref 104, .ref 105, .int fo, .int as_, .int sm, .int sk, .ref 106, .ref 107, .ref 108, .int z, .ref 109, .ref 110, .ref 111, .int (nI σ.2.1.1), .ref 112, .ref 113, .ref 114, .ref 115, .ref 116, .int (nI (bI σ.2.2.2.2.1.isSome)), .int iN, .int iM, .int iT, .ref 117, .ref 118, .ref 119]) rfl (fun h12 e12 => ?_)
    have f12_98 : rd h12 98 = some (.inr (9, [.int (nI σ.1.1), .int (nI σ.1.2.1), .ref 99, .ref 100, .ref 101, .int (nI σ.1.2.2.2.1), .ref 102, .int (nI ((σ.2.2.2.1).length)), .ref 103, .ref 104, .ref 105, .int fo, .int as_, .int sm, .int sk, .ref 106, .ref 107, .ref 108, .int z, .ref 109, .ref 110, .ref 111, .int (nI σ.2.1.1), .ref 112, .ref 113, .ref 114, .ref 115, .ref 116, .int (nI (bI σ.2.2.2.2.1.isSome)), .int iN, .int iM, .int iT, .ref 117, .ref 118, .ref 119])) := by rw [e12]; exact rd_wr_eq (f11_98)
    have s12 : Smo 98 (98 + 1) h11 h12 := by rw [e12]; exact Smo.wr (by omega) (by omega)
    have f12_102 : rd h12 102 = some (.inl (rf)) := by rw [s12 _ (by omega)]; exact f11_102
    have f12_103 : rd h12 103 = some (.inl (WM)) := by rw [s12 _ (by omega)]; exact f11_103
    have f12_104 : rd h12 104 = some (.inl (WP)) := by rw [s12 _ (by omega)]; exact f11_104
    have f12_105 : rd h12 105 = some (.inl (WR)) := by rw [s12 _ (by omega)]; exact f11_105
    have f12_106 : rd h12 106 = some (.inl (Tr)) := by rw [s12 _ (by omega)]; exact f11_106
    have f12_107 : rd h12 107 = some (.inl (Ke)) := by rw [s12 _ (by omega)]; exact f11_107
    have f12_108 : rd h12 108 = some (.inl (Co)) := by rw [s12 _ (by omega)]; exact f11_108
    have f12_109 : rd h12 109 = some (.inl (Th)) := by rw [s12 _ (by omega)]; exact f11_109
    have f12_110 : rd h12 110 = some (.inl (Be)) := by rw [s12 _ (by omega)]; exact f11_110
    have f12_111 : rd h12 111 = some (.inl (σ.2.1.2.map nI)) := by rw [s12 _ (by omega)]; exact f11_111
    have f12_115 : rd h12 115 = some (.inl (Sz)) := by rw [s12 _ (by omega)]; exact f11_115
    have f12_116 : rd h12 116 = some (.inl (It)) := by rw [s12 _ (by omega)]; exact f11_116
    have f12_117 : rd h12 117 = some (.inl (IP)) := by rw [s12 _ (by omega)]; exact f11_117
    have f12_118 : rd h12 118 = some (.inl (IR)) := by rw [s12 _ (by omega)]; exact f11_118
    have f12_119 : rd h12 119 = some (.inl (IU)) := by rw [s12 _ (by omega)]; exact f11_119
    have f12_112 : rd h12 112 = some (.inl (cpL (P) 0 (AP) 0 18)) := by rw [s12 _ (by omega)]; exact f11_112
    have f12_113 : rd h12 113 = some (.inl (cpL (Ro) 0 (AR) 0 338)) := by rw [s12 _ (by omega)]; exact f11_113
    have f12_114 : rd h12 114 = some (.inl (cpL (U) 0 (AU) 0 12)) := by rw [s12 _ (by omega)]; exact f11_114
    have f12_99 : rd h12 99 = some (.inl (Pq)) := by rw [s12 _ (by omega)]; exact f11_99
    have f12_100 : rd h12 100 = some (.inl (Rq)) := by rw [s12 _ (by omega)]; exact f11_100
    have f12_101 : rd h12 101 = some (.inl (Uq)) := by rw [s12 _ (by omega)]; exact f11_101
    refine g_aload_n dX9_text_134 2 rfl ?_
    refine g_getf dX9_text_135 kX9 wfX9_53 (Nat.le_of_ble_eq_true rfl) (f12_98) rfl ?_
    refine g_iconst (v := nI 0) dX9_text_138 (by decide +kernel) ?_
    refine g_aload_n dX9_text_139 2 rfl ?_
    refine g_getf dX9_text_140 kX9 wfX9_13 (Nat.le_of_ble_eq_true rfl) (f12_98) rfl ?_
    refine g_iconst (v := nI 0) dX9_text_143 (by decide +kernel) ?_
    refine g_bipush (v := nI 18) dX9_text_144 (by decide +kernel) ?_
    have la13 : (cpL (P) 0 (AP) 0 18).length = 18 := ((cpL_len _ _ _ _ _).trans lb1)
    have lb13 : (Pq).length = 18 := lpq
    refine g_callSq (st1 := []) dX9_text_146 (ev_mlays (a := 0) (b := 0) (s := 18) (show 112 ≠ 99 by decide) (by omega) (by omega) ⟨by omega, by omega⟩ (f12_112) (f12_99)) oX9_lays wsX9_lays wmX9_83 rfl ⟨(Nat.le_of_ble_eq_true rfl), (Nat.le_of_ble_eq_true rfl)⟩ ⟨Nat.zero_le _, Nat.zero_le _⟩ (Nat.le_of_ble_eq_true rfl) rfl rfl (fun h14 q14 => ?_)
    obtain ⟨q14a, q14s⟩ := q14
    have f14_98 : rd h14 98 = some (.inr (9, [.int (nI σ.1.1), .int (nI σ.1.2.1), .ref 99, .ref 100, .ref 101, .int (nI σ.1.2.2.2.1), .ref 102, .int (nI ((σ.2.2.2.1).length)), .ref 103, .ref 104, .ref 105, .int fo, .int as_, .int sm, .int sk, .ref 106, .ref 107, .ref 108, .int z, .ref 109, .ref 110, .ref 111, .int (nI σ.2.1.1), .ref 112, .ref 113, .ref 114, .ref 115, .ref 116, .int (nI (bI σ.2.2.2.2.1.isSome)), .int iN, .int iM, .int iT, .ref 117, .ref 118, .ref 119])) := by rw [q14s _ (by omega)]; exact f12_98
    have f14_102 : rd h14 102 = some (.inl (rf)) := by rw [q14s _ (by omega)]; exact f12_102
    have f14_103 : rd h14 103 = some (.inl (WM)) := by rw [q14s _ (by omega)]; exact f12_103
    have f14_104 : rd h14 104 = some (.inl (WP)) := by rw [q14s _ (by omega)]; exact f12_104
    have f14_105 : rd h14 105 = some (.inl (WR)) := by rw [q14s _ (by omega)]; exact f12_105
    have f14_106 : rd h14 106 = some (.inl (Tr)) := by rw [q14s _ (by omega)]; exact f12_106
    have f14_107 : rd h14 107 = some (.inl (Ke)) := by rw [q14s _ (by omega)]; exact f12_107
    have f14_108 : rd h14 108 = some (.inl (Co)) := by rw [q14s _ (by omega)]; exact f12_108
    have f14_109 : rd h14 109 = some (.inl (Th)) := by rw [q14s _ (by omega)]; exact f12_109
    have f14_110 : rd h14 110 = some (.inl (Be)) := by rw [q14s _ (by omega)]; exact f12_110
    have f14_111 : rd h14 111 = some (.inl (σ.2.1.2.map nI)) := by rw [q14s _ (by omega)]; exact f12_111
    have f14_115 : rd h14 115 = some (.inl (Sz)) := by rw [q14s _ (by omega)]; exact f12_115
    have f14_116 : rd h14 116 = some (.inl (It)) := by rw [q14s _ (by omega)]; exact f12_116
    have f14_117 : rd h14 117 = some (.inl (IP)) := by rw [q14s _ (by omega)]; exact f12_117
    have f14_118 : rd h14 118 = some (.inl (IR)) := by rw [q14s _ (by omega)]; exact f12_118
    have f14_119 : rd h14 119 = some (.inl (IU)) := by rw [q14s _ (by omega)]; exact f12_119
    have f14_112 : rd h14 112 = some (.inl (cpL (P) 0 (AP) 0 18)) := by rw [q14s _ (by omega)]; exact f12_112
    have f14_113 : rd h14 113 = some (.inl (cpL (Ro) 0 (AR) 0 338)) := by rw [q14s _ (by omega)]; exact f12_113
    have f14_114 : rd h14 114 = some (.inl (cpL (U) 0 (AU) 0 12)) := by rw [q14s _ (by omega)]; exact f12_114
    have f14_100 : rd h14 100 = some (.inl (Rq)) := by rw [q14s _ (by omega)]; exact f12_100
    have f14_101 : rd h14 101 = some (.inl (Uq)) := by rw [q14s _ (by omega)]; exact f12_101
    refine g_aload_n dX9_text_149 2 rfl ?_
    refine g_getf dX9_text_150 kX9 wfX9_56 (Nat.le_of_ble_eq_true rfl) (f14_98) rfl ?_
    refine g_iconst (v := nI 0) dX9_text_153 (by decide +kernel) ?_
    refine g_aload_n dX9_text_154 2 rfl ?_
    refine g_getf dX9_text_155 kX9 wfX9_17 (Nat.le_of_ble_eq_true rfl) (f14_98) rfl ?_
    refine g_iconst (v := nI 0) dX9_text_158 (by decide +kernel) ?_
    refine g_sipush (v := nI 338) dX9_text_159 (by decide +kernel) ?_
    have la15 : (cpL (Ro) 0 (AR) 0 338).length = 338 := ((cpL_len _ _ _ _ _).trans lb3)
    have lb15 : (Rq).length = 338 := lrq
    refine g_callSq (st1 := []) dX9_text_162 (ev_mlays (a := 0) (b := 0) (s := 338) (show 113 ≠ 100 by decide) (by omega) (by omega) ⟨by omega, by omega⟩ (f14_113) (f14_100)) oX9_lays wsX9_lays wmX9_83 rfl ⟨(Nat.le_of_ble_eq_true rfl), (Nat.le_of_ble_eq_true rfl)⟩ ⟨Nat.zero_le _, Nat.zero_le _⟩ (Nat.le_of_ble_eq_true rfl) rfl rfl (fun h16 q16 => ?_)
    obtain ⟨q16a, q16s⟩ := q16
    have f16_98 : rd h16 98 = some (.inr (9, [.int (nI σ.1.1), .int (nI σ.1.2.1), .ref 99, .ref 100, .ref 101, .int (nI σ.1.2.2.2.1), .ref 102, .int (nI ((σ.2.2.2.1).length)), .ref 103, .ref 104, .ref 105, .int fo, .int as_, .int sm, .int sk, .ref 106, .ref 107, .ref 108, .int z, .ref 109, .ref 110, .ref 111, .int (nI σ.2.1.1), .ref 112, .ref 113, .ref 114, .ref 115, .ref 116, .int (nI (bI σ.2.2.2.2.1.isSome)), .int iN, .int iM, .int iT, .ref 117, .ref 118, .ref 119])) := by rw [q16s _ (by omega)]; exact f14_98
    have f16_102 : rd h16 102 = some (.inl (rf)) := by rw [q16s _ (by omega)]; exact f14_102
    have f16_103 : rd h16 103 = some (.inl (WM)) := by rw [q16s _ (by omega)]; exact f14_103
    have f16_104 : rd h16 104 = some (.inl (WP)) := by rw [q16s _ (by omega)]; exact f14_104
    have f16_105 : rd h16 105 = some (.inl (WR)) := by rw [q16s _ (by omega)]; exact f14_105
    have f16_106 : rd h16 106 = some (.inl (Tr)) := by rw [q16s _ (by omega)]; exact f14_106
    have f16_107 : rd h16 107 = some (.inl (Ke)) := by rw [q16s _ (by omega)]; exact f14_107
    have f16_108 : rd h16 108 = some (.inl (Co)) := by rw [q16s _ (by omega)]; exact f14_108
    have f16_109 : rd h16 109 = some (.inl (Th)) := by rw [q16s _ (by omega)]; exact f14_109
    have f16_110 : rd h16 110 = some (.inl (Be)) := by rw [q16s _ (by omega)]; exact f14_110
    have f16_111 : rd h16 111 = some (.inl (σ.2.1.2.map nI)) := by rw [q16s _ (by omega)]; exact f14_111
    have f16_115 : rd h16 115 = some (.inl (Sz)) := by rw [q16s _ (by omega)]; exact f14_115
    have f16_116 : rd h16 116 = some (.inl (It)) := by rw [q16s _ (by omega)]; exact f14_116
    have f16_117 : rd h16 117 = some (.inl (IP)) := by rw [q16s _ (by omega)]; exact f14_117
    have f16_118 : rd h16 118 = some (.inl (IR)) := by rw [q16s _ (by omega)]; exact f14_118
    have f16_119 : rd h16 119 = some (.inl (IU)) := by rw [q16s _ (by omega)]; exact f14_119
    have f16_112 : rd h16 112 = some (.inl (cpL (P) 0 (AP) 0 18)) := by rw [q16s _ (by omega)]; exact f14_112
    have f16_113 : rd h16 113 = some (.inl (cpL (Ro) 0 (AR) 0 338)) := by rw [q16s _ (by omega)]; exact f14_113
    have f16_114 : rd h16 114 = some (.inl (cpL (U) 0 (AU) 0 12)) := by rw [q16s _ (by omega)]; exact f14_114
    have f16_101 : rd h16 101 = some (.inl (Uq)) := by rw [q16s _ (by omega)]; exact f14_101
    have f16_99 : rd h16 99 = some (.inl (cpL (cpL (P) 0 (AP) 0 18) 0 (Pq) 0 18)) := by rw [q16s _ (by omega)]; exact q14a
    refine g_aload_n dX9_text_165 2 rfl ?_
    refine g_getf dX9_text_166 kX9 wfX9_59 (Nat.le_of_ble_eq_true rfl) (f16_98) rfl ?_
    refine g_iconst (v := nI 0) dX9_text_169 (by decide +kernel) ?_
    refine g_aload_n dX9_text_170 2 rfl ?_
    refine g_getf dX9_text_171 kX9 wfX9_20 (Nat.le_of_ble_eq_true rfl) (f16_98) rfl ?_
    refine g_iconst (v := nI 0) dX9_text_174 (by decide +kernel) ?_
    refine g_bipush (v := nI 12) dX9_text_175 (by decide +kernel) ?_
    have la17 : (cpL (U) 0 (AU) 0 12).length = 12 := ((cpL_len _ _ _ _ _).trans lb5)
    have lb17 : (Uq).length = 12 := luq
    refine g_callSq (st1 := []) dX9_text_177 (ev_mlays (a := 0) (b := 0) (s := 12) (show 114 ≠ 101 by decide) (by omega) (by omega) ⟨by omega, by omega⟩ (f16_114) (f16_101)) oX9_lays wsX9_lays wmX9_83 rfl ⟨(Nat.le_of_ble_eq_true rfl), (Nat.le_of_ble_eq_true rfl)⟩ ⟨Nat.zero_le _, Nat.zero_le _⟩ (Nat.le_of_ble_eq_true rfl) rfl rfl (fun h18 q18 => ?_)
    obtain ⟨q18a, q18s⟩ := q18
    have f18_98 : rd h18 98 = some (.inr (9, [.int (nI σ.1.1), .int (nI σ.1.2.1), .ref 99, .ref 100, .ref 101, .int (nI σ.1.2.2.2.1), .ref 102, .int (nI ((σ.2.2.2.1).length)), .ref 103, .ref 104, .ref 105, .int fo, .int as_, .int sm, .int sk, .ref 106, .ref 107, .ref 108, .int z, .ref 109, .ref 110, .ref 111, .int (nI σ.2.1.1), .ref 112, .ref 113, .ref 114, .ref 115, .ref 116, .int (nI (bI σ.2.2.2.2.1.isSome)), .int iN, .int iM, .int iT, .ref 117, .ref 118, .ref 119])) := by rw [q18s _ (by omega)]; exact f16_98
    have f18_102 : rd h18 102 = some (.inl (rf)) := by rw [q18s _ (by omega)]; exact f16_102
    have f18_103 : rd h18 103 = some (.inl (WM)) := by rw [q18s _ (by omega)]; exact f16_103
    have f18_104 : rd h18 104 = some (.inl (WP)) := by rw [q18s _ (by omega)]; exact f16_104
    have f18_105 : rd h18 105 = some (.inl (WR)) := by rw [q18s _ (by omega)]; exact f16_105
    have f18_106 : rd h18 106 = some (.inl (Tr)) := by rw [q18s _ (by omega)]; exact f16_106
    have f18_107 : rd h18 107 = some (.inl (Ke)) := by rw [q18s _ (by omega)]; exact f16_107
    have f18_108 : rd h18 108 = some (.inl (Co)) := by rw [q18s _ (by omega)]; exact f16_108
    have f18_109 : rd h18 109 = some (.inl (Th)) := by rw [q18s _ (by omega)]; exact f16_109
    have f18_110 : rd h18 110 = some (.inl (Be)) := by rw [q18s _ (by omega)]; exact f16_110
    have f18_111 : rd h18 111 = some (.inl (σ.2.1.2.map nI)) := by rw [q18s _ (by omega)]; exact f16_111
    have f18_115 : rd h18 115 = some (.inl (Sz)) := by rw [q18s _ (by omega)]; exact f16_115
    have f18_116 : rd h18 116 = some (.inl (It)) := by rw [q18s _ (by omega)]; exact f16_116
    have f18_117 : rd h18 117 = some (.inl (IP)) := by rw [q18s _ (by omega)]; exact f16_117
    have f18_118 : rd h18 118 = some (.inl (IR)) := by rw [q18s _ (by omega)]; exact f16_118
    have f18_119 : rd h18 119 = some (.inl (IU)) := by rw [q18s _ (by omega)]; exact f16_119
    have f18_112 : rd h18 112 = some (.inl (cpL (P) 0 (AP) 0 18)) := by rw [q18s _ (by omega)]; exact f16_112
    have f18_113 : rd h18 113 = some (.inl (cpL (Ro) 0 (AR) 0 338)) := by rw [q18s _ (by omega)]; exact f16_113
    have f18_114 : rd h18 114 = some (.inl (cpL (U) 0 (AU) 0 12)) := by rw [q18s _ (by omega)]; exact f16_114
    have f18_99 : rd h18 99 = some (.inl (cpL (cpL (P) 0 (AP) 0 18) 0 (Pq) 0 18)) := by rw [q18s _ (by omega)]; exact f16_99
    have f18_100 : rd h18 100 = some (.inl (cpL (cpL (Ro) 0 (AR) 0 338) 0 (Rq) 0 338)) := by rw [q18s _ (by omega)]; exact q16a
    refine g_aload_n dX9_text_180 2 rfl ?_
    refine g_iconst (v := nI 0) dX9_text_181 (by decide +kernel) ?_
    refine g_putv dX9_text_182 kX9 wfX9_238 (Nat.le_of_ble_eq_true rfl) rfl (fun _ _ => ⟨rfl, rfl⟩) (f18_98) (Nat.le_of_ble_eq_true rfl) (fs' := [.int (nI σ.1.1), .int (nI σ.1.2.1), .ref 99, .ref 100, .ref 101, .int (nI σ.1.2.2.2.1), .ref 102, .int (nI ((σ.2.2.2.1).length)), .ref 103, .ref 104, .ref 105, .int fo, .int as_, .int sm, .int sk, .ref 106, .ref 107, .ref 108, .int z, .ref 109, .ref 110, .ref 111, .int (nI 0), .ref 112, .ref 113, .ref 114, .ref 115, .ref 116, .int (nI (bI σ.2.2.2.2.1.isSome)), .int iN, .int iM, .int iT, .ref 117, .ref 118, .ref 119]) rfl (fun h19 e19 => ?_)
    have f19_98 : rd h19 98 = some (.inr (9, [.int (nI σ.1.1), .int (nI σ.1.2.1), .ref 99, .ref 100, .ref 101, .int (nI σ.1.2.2.2.1), .ref 102, .int (nI ((σ.2.2.2.1).length)), .ref 103, .ref 104, .ref 105, .int fo, .int as_, .int sm, .int sk, .ref 106, .ref 107, .ref 108, .int z, .ref 109, .ref 110, .ref 111, .int (nI 0), .ref 112, .ref 113, .ref 114, .ref 115, .ref 116, .int (nI (bI σ.2.2.2.2.1.isSome)), .int iN, .int iM, .int iT, .ref 117, .ref 118, .ref 119])) := by rw [e19]; exact rd_wr_eq (f18_98)
    have s19 : Smo 98 (98 + 1) h18 h19 := by rw [e19]; exact Smo.wr (by omega) (by omega)
    have f19_102 : rd h19 102 = some (.inl (rf)) := by rw [s19 _ (by omega)]; exact f18_102
    have f19_103 : rd h19 103 = some (.inl (WM)) := by rw [s19 _ (by omega)]; exact f18_103
    have f19_104 : rd h19 104 = some (.inl (WP)) := by rw [s19 _ (by omega)]; exact f18_104
    have f19_105 : rd h19 105 = some (.inl (WR)) := by rw [s19 _ (by omega)]; exact f18_105
    have f19_106 : rd h19 106 = some (.inl (Tr)) := by rw [s19 _ (by omega)]; exact f18_106
    have f19_107 : rd h19 107 = some (.inl (Ke)) := by rw [s19 _ (by omega)]; exact f18_107
    have f19_108 : rd h19 108 = some (.inl (Co)) := by rw [s19 _ (by omega)]; exact f18_108
    have f19_109 : rd h19 109 = some (.inl (Th)) := by rw [s19 _ (by omega)]; exact f18_109
    have f19_110 : rd h19 110 = some (.inl (Be)) := by rw [s19 _ (by omega)]; exact f18_110
    have f19_111 : rd h19 111 = some (.inl (σ.2.1.2.map nI)) := by rw [s19 _ (by omega)]; exact f18_111
    have f19_115 : rd h19 115 = some (.inl (Sz)) := by rw [s19 _ (by omega)]; exact f18_115
    have f19_116 : rd h19 116 = some (.inl (It)) := by rw [s19 _ (by omega)]; exact f18_116
    have f19_117 : rd h19 117 = some (.inl (IP)) := by rw [s19 _ (by omega)]; exact f18_117
    have f19_118 : rd h19 118 = some (.inl (IR)) := by rw [s19 _ (by omega)]; exact f18_118
    have f19_119 : rd h19 119 = some (.inl (IU)) := by rw [s19 _ (by omega)]; exact f18_119
    have f19_112 : rd h19 112 = some (.inl (cpL (P) 0 (AP) 0 18)) := by rw [s19 _ (by omega)]; exact f18_112
    have f19_113 : rd h19 113 = some (.inl (cpL (Ro) 0 (AR) 0 338)) := by rw [s19 _ (by omega)]; exact f18_113
    have f19_114 : rd h19 114 = some (.inl (cpL (U) 0 (AU) 0 12)) := by rw [s19 _ (by omega)]; exact f18_114
    have f19_99 : rd h19 99 = some (.inl (cpL (cpL (P) 0 (AP) 0 18) 0 (Pq) 0 18)) := by rw [s19 _ (by omega)]; exact f18_99
    have f19_100 : rd h19 100 = some (.inl (cpL (cpL (Ro) 0 (AR) 0 338) 0 (Rq) 0 338)) := by rw [s19 _ (by omega)]; exact f18_100
    have f19_101 : rd h19 101 = some (.inl (cpL (cpL (U) 0 (AU) 0 12) 0 (Uq) 0 12)) := by rw [s19 _ (by omega)]; exact q18a
    refine g_sipush (v := (-2000)) dX9_text_185 (by decide +kernel) ?_
    refine g_iload dX9_text_188 0 rfl ?_
    refine g_isub dX9_text_190 ?_
    exact g_iret dX9_text_191 rfl ⟨Nat.zero_le _, Nat.zero_le _⟩ (⟨rfl, ⟨_, _, _, _, _, _, _, _, _, _, _, _, _, _, _, _, _, _, _, _, _, _, _, _, _, _, _, _, _, f19_98, ⟨f19_99, ((cpL_len _ _ _ _ _).trans lb13)⟩, ⟨f19_100, ((cpL_len _ _ _ _ _).trans lb15)⟩, ⟨f19_101, ((cpL_len _ _ _ _ _).trans lb17)⟩, ⟨f19_102, lrf⟩, ⟨f19_103, lWM⟩, ⟨f19_104, lWP⟩, ⟨f19_105, lWR⟩, ⟨f19_106, lTr⟩, ⟨f19_107, lKe⟩, ⟨f19_108, lCo⟩, ⟨f19_109, lTh⟩, ⟨f19_110, lBe⟩, ⟨f19_111, lW2⟩, ⟨f19_112, ((cpL_len _ _ _ _ _).trans lb1)⟩, ⟨f19_113, ((cpL_len _ _ _ _ _).trans lb3)⟩, ⟨f19_114, ((cpL_len _ _ _ _ _).trans lb5)⟩, ⟨f19_115, lSz⟩, ⟨f19_116, lIt⟩, ⟨f19_117, lIP⟩, ⟨f19_118, lIR⟩, ⟨f19_119, lIU⟩, (pR_cp (m := σ.1.2.1) (pR_cp vP lAP lP (by omega)) lpq (by rw [cpL_len]; exact lAP) (by omega)), (rR_cp (rR_cp vR lAR) lrq), (tR_cp (tR_cp vU lAU k6) luq k6), vF, vH, rfl, vS, vI, vG⟩, (fun q hq => by rw [s19 q (by omega), q18s q (by omega), q16s q (by omega), q14s q (by omega), s12 q (by omega), s11 q (by omega), s10 q (by omega), s9 q (by omega), sq q (by omega), q6s q (by omega), q4s q (by omega), q2s q (by omega)])⟩)

theorem ev_y_text {h : List aC} {σ : Sg} (H : RM h σ) (ok : okSg σ) : Ev mX9_text 4 0 0 [.ref 98] h (spM h (oText σ)) := by
  cases ew : wp σ.2.1.2 σ.2.1.1 0 0 with
  | none => exact ev_y_text_n H ok ew
  | some p => exact ev_y_text_p H ok p ew

theorem nn_of {x : Int32} (h : 0 ≤ x) : ∃ k, k < 2 ^ 31 ∧ x = nI k := ⟨x.toNatClampNeg, by have := Int32.toNatClampNeg_lt x; omega, (Int32.ofNat_toNatClampNeg x h).symm⟩
theorem nn_lt {k b : Nat} (hk : k < 2 ^ 31) (hb : b < 2 ^ 31) (h : nI k < nI b) : k < b := (nI_ltI hk hb).mp h
/-- a deed that can be undone: the pairs and the room before it -/
abbrev Hs : Type := (Nat → Pr) × (Nat → Nat → Nat)
def hd0 : Hs := (fun _ => (0, 0, 0), fun _ _ => 0)
/-- all that an object holds: size, pairs, turns, room; letters; lists; deeds, newest first; image; refusals -/
abbrev Sg : Type := Cr × (Nat × List Nat) × ((Nat → List Int32) × List Int32) × List Hs × Option Cr × List Int32
def hOne (n m : Nat) (F S A : List Nat) (pl : Int32) (co : Nat) (e : Hs) (rm : Nat → Nat → Nat) : Prop := (∀ k, k < m → fOf F S A k = e.1 k) ∧ ((pl = -1 ∧ e.2 = rm) ∨ ∃ a b, a < n ∧ b < n ∧ pl = nI (a * n + b) ∧ e.2 = u2 rm a b co ∧ co < 196)
def rmA (rm : Nat → Nat → Nat) (hi : List Hs) (j : Nat) : Nat → Nat → Nat := if j = 0 then rm else (hi.getD (j - 1) hd0).2
def hRel (n m : Nat) (rm : Nat → Nat → Nat) (nx : Nat) (HF HS HD : Nat → List Nat) (PL : List Int32) (CO : List Nat) (hi : List Hs) : Prop := ∀ j, j < hi.length → hOne n m (HF ((nx + 11 - j) % 12)) (HS ((nx + 11 - j) % 12)) (HD ((nx + 11 - j) % 12)) (PL.getD ((nx + 11 - j) % 12) 0) (CO.getD ((nx + 11 - j) % 12) 0) (hi.getD j hd0) (rmA rm hi j)
def HR (h : List aC) (n m : Nat) (rm : Nat → Nat → Nat) (hi : List Hs) : Prop := hi.length ≤ 12 ∧ ∃ (nx : Nat) (HF HS HD : Nat → List Nat) (PL : List Int32) (CO : List Nat), HA h nx hi.length HF HS HD PL CO ∧ nx < 12 ∧ hRel n m rm nx HF HS HD PL CO hi
theorem HR.mv {h h' : List aC} {n m lo hi : Nat} {rm : Nat → Nat → Nat} {l : List Hs} (H : HR h n m rm l) (s : Smo lo hi h h') (hq : 84 ≤ lo ∨ hi ≤ 42) : HR h' n m rm l := by
  obtain ⟨h1, nx, HF, HS, HD, PL, CO, hA, h2, h3⟩ := H
  exact ⟨h1, nx, HF, HS, HD, PL, CO, hA.mv s hq, h2, h3⟩
def O0 (h : List aC) (im : Option Cr) : Prop := rd h 0 = some (.inr (8, [.ref 1, .ref 12, .ref 23, .int (nI (bI im.isSome)), .ref 34, .ref 36, .ref 42, .ref 84, .ref 89, .ref 93, .ref 97]))
def ImA (h : List aC) (im : Option Cr) : Prop := ∃ c2, StA h 12 c2 ∧ ∀ c3, im = some c3 → c2 = c3
def PQ (h : List aC) (p : Nat) : Prop := ∃ (n m : Nat) (F S A : List Nat), PA h p n m F S A
def XQ (h : List aC) : Prop := (∃ (w : Int32) (c gs gk : Nat), XA h w c gs gk) ∧ PQ h 85
/-- the object at 0 holds it -/
def RC (h : List aC) (σ : Sg) : Prop := O0 h σ.2.2.2.2.1 ∧ StA h 1 σ.1 ∧ ImA h σ.2.2.2.2.1 ∧ (∃ c3, StA h 23 c3) ∧ LtA h σ.2.1.1 σ.2.1.2 ∧ LA h σ.2.2.1.1 σ.2.2.1.2 ∧ HR h σ.1.1 σ.1.2.1 σ.1.2.2.2.2.2 σ.2.2.2.1 ∧ XQ h ∧ PQ h 89 ∧ PQ h 93 ∧ rd h 97 = some (.inl σ.2.2.2.2.2)
/-- an object such as it can be -/
def okSg (σ : Sg) : Prop := okCr σ.1 ∧ (σ.2.1.1 ≤ 72 ∧ ∀ i, i < σ.2.1.1 → σ.2.1.2.getD i 0 < 256) ∧ (∀ y, y < 3 → σ.2.2.1.2.getD y 0 = -1 ∨ ∃ q, q ≤ 40 ∧ σ.2.2.1.2.getD y 0 = nI q) ∧ (σ.2.2.2.1.length ≤ 12 ∧ ∀ e ∈ σ.2.2.2.1, (∀ k, k < σ.1.2.1 → okPr σ.1.1 (e.1 k)) ∧ (∀ a b, a < σ.1.1 → b < σ.1.1 → okC σ.1.1 (e.2 a b)) ∧ (∀ a b, σ.1.1 ≤ a ∨ σ.1.1 ≤ b → e.2 a b = 0)) ∧ (∀ c3, σ.2.2.2.2.1 = some c3 → okCr c3) ∧ σ.2.2.2.2.2.length = 7
theorem PQ.mv {h h' : List aC} {p lo hi : Nat} (H : PQ h p) (s : Smo lo hi h h') (hq : p + 4 ≤ lo ∨ hi ≤ p) : PQ h' p := by
  obtain ⟨n, m, F, S, A, q⟩ := H
  exact ⟨n, m, F, S, A, q.mv s hq⟩
theorem RC.mv {h h' : List aC} {σ : Sg} {lo hi : Nat} (H : RC h σ) (s : Smo lo hi h h') (hq : 98 ≤ lo) : RC h' σ := by
  obtain ⟨h1, h2, ⟨c2, h3, h3'⟩, ⟨c3, h4⟩, h5, h6, h7, ⟨⟨w, c, gs, gk, h8⟩, h8'⟩, h9, h10, h11⟩ := H
  exact ⟨by unfold O0; rw [s 0 (by omega)]; exact h1, h2.mv s (by omega), ⟨c2, h3.mv s (by omega), h3'⟩, ⟨c3, h4.mv s (by omega)⟩, h5.mv s (by omega), h6.mv s (by omega), h7.mv s (by omega), ⟨⟨w, c, gs, gk, h8.mv s (by omega)⟩, h8'.mv s (by omega)⟩, h9.mv s (by omega), h10.mv s (by omega), by rw [s 97 (by omega)]; exact h11⟩
/-- an answer and what the object holds then -/
def sp (h : List aC) (r : Int32 × Sg) : Option Value → List aC → Prop := pq (some (.int r.1)) (fun h2 => RC h2 r.2 ∧ Smo 0 98 h h2)
def spL (h : List aC) (r : Int64 × Sg) : Option Value → List aC → Prop := pq (some (.long r.1)) (fun h2 => RC h2 r.2 ∧ Smo 0 98 h h2)
def rfG (σ : Sg) (k : Nat) : Sg := (σ.1, σ.2.1, σ.2.2.1, σ.2.2.2.1, σ.2.2.2.2.1, σ.2.2.2.2.2.set k (σ.2.2.2.2.2.getD k 0 + nI 1))
def rfS (σ : Sg) (no : Int32) : Int32 × Sg := (no, rfG σ (-no).toNatClampNeg)
def noN (k : Nat) : Prop := k = 1 ∨ k = 2 ∨ k = 3 ∨ k = 4 ∨ k = 6
theorem noN_of {r : Int32} (h : isNo r) (h0 : ¬ r = 0) : ∃ k, noN k ∧ r = -nI k := by
  rcases h with h | h | h | h | h | h
  · exact ⟨1, Or.inl rfl, h⟩
  · exact ⟨2, Or.inr (Or.inl rfl), h⟩
  · exact ⟨3, Or.inr (Or.inr (Or.inl rfl)), h⟩
  · exact ⟨4, Or.inr (Or.inr (Or.inr (Or.inl rfl))), h⟩
  · exact ⟨6, Or.inr (Or.inr (Or.inr (Or.inr rfl))), h⟩
  · exact absurd h h0
theorem RC.rf {h h2 : List aC} {σ : Sg} {l : List Int32} (H : RC h σ) (s : Smo 97 98 h h2) (e : rd h2 97 = some (.inl l)) : RC h2 (σ.1, σ.2.1, σ.2.2.1, σ.2.2.2.1, σ.2.2.2.2.1, l) := by
  obtain ⟨h1, h2, ⟨c2, h3, h3'⟩, ⟨c3, h4⟩, h5, h6, h7, ⟨⟨w, c, gs, gk, h8⟩, h8'⟩, h9, h10, h11⟩ := H
  exact ⟨by unfold O0; rw [s 0 (by omega)]; exact h1, h2.mv s (by omega), ⟨c2, h3.mv s (by omega), h3'⟩, ⟨c3, h4.mv s (by omega)⟩, h5.mv s (by omega), h6.mv s (by omega), h7.mv s (by omega), ⟨⟨w, c, gs, gk, h8.mv s (by omega)⟩, h8'.mv s (by omega)⟩, h9.mv s (by omega), h10.mv s (by omega), e⟩

theorem neg_neg1 (k : Nat) : - - nI k = nI k := Int32.neg_neg

set_option maxRecDepth 100000 in
set_option maxHeartbeats 4000000 in
theorem ev_refuse1 {h : List aC} {σ : Sg} (H : RC h σ) (lR : σ.2.2.2.2.2.length = 7) (k : Nat) (hk : noN k) (hz : ¬ 0 ≤ -nI k) : Ev mX8_refuse 1 0 0 [.ref 0, .int (-nI k)] h (sp h (-nI k, rfG σ k)) := by
  unfold noN at hk
  refine Ev.of pX8_refuse (Nat.le_of_ble_eq_true rfl) ?_
  show G mX8_refuse (rmD 1 0 0) none _ 0 0 0 [(0, .ref 0), (1, .int (-nI k))] [] h
  refine g_iload_n dX8_refuse_0 1 rfl ?_
  refine g_if_ge 25 dX8_refuse_1 (by decide) (fun z => absurd z hz) (fun c1 => ?_)
  refine g_iload_n dX8_refuse_4 1 rfl ?_
  refine g_ineg dX8_refuse_5 ?_
  refine g_top (neg_neg1 k) ?_
  refine g_aload_n dX8_refuse_6 0 rfl ?_
  refine g_getf dX8_refuse_7 kX8 wfX8_64 (Nat.le_of_ble_eq_true rfl) (H.1) rfl ?_
  refine g_alen (v := nI 7) dX8_refuse_10 (H.2.2.2.2.2.2.2.2.2.2) (by rw [lR]; rfl) ?_
  refine g_icmp_geN 25 dX8_refuse_11 (by decide) (by omega) (by omega) (fun z => absurd z (by omega)) (fun c11 => ?_)
  refine g_aload_n dX8_refuse_14 0 rfl ?_
  refine g_getf dX8_refuse_15 kX8 wfX8_64 (Nat.le_of_ble_eq_true rfl) (H.1) rfl ?_
  refine g_iload_n dX8_refuse_18 1 rfl ?_
  refine g_ineg dX8_refuse_19 ?_
  refine g_top (neg_neg1 k) ?_
  refine g_dup2 dX8_refuse_20 rfl rfl ?_
  refine g_ialI dX8_refuse_21 (H.2.2.2.2.2.2.2.2.2.2) (by omega) (by omega) ?_
  refine g_iconst (v := nI 1) dX8_refuse_22 (by decide +kernel) ?_
  refine g_iadd dX8_refuse_23 ?_
  refine g_iasI dX8_refuse_24 (H.2.2.2.2.2.2.2.2.2.2) (by omega) (by omega) (fun h1 e1 => ?_)
  have f1_97 : rd h1 97 = some (.inl ((σ.2.2.2.2.2).set k (((σ.2.2.2.2.2).getD k 0) + (nI 1)))) := by rw [e1]; exact rd_wr_eq (H.2.2.2.2.2.2.2.2.2.2)
  have lf1_97 : ((σ.2.2.2.2.2).set k (((σ.2.2.2.2.2).getD k 0) + (nI 1))).length = _ := List.length_set.trans lR
  have s1 : Smo 97 (97 + 1) h h1 := by rw [e1]; exact Smo.wr (by omega) (by omega)
  have f1_0 : rd h1 0 = some (.inr (8, [.ref 1, .ref 12, .ref 23, .int (nI (bI σ.2.2.2.2.1.isSome)), .ref 34, .ref 36, .ref 42, .ref 84, .ref 89, .ref 93, .ref 97])) := by rw [s1 _ (by omega)]; exact H.1
  refine g_iload_n dX8_refuse_25 1 rfl ?_
  exact g_iret dX8_refuse_26 rfl ⟨Nat.zero_le _, Nat.zero_le _⟩ (⟨rfl, H.rf s1 f1_97, fun q hq => s1 q (by omega)⟩)

theorem noN_neg {k : Nat} (hk : noN k) : ¬ 0 ≤ -nI k ∧ (- -nI k).toNatClampNeg = k := by
  rcases hk with h | h | h | h | h <;> subst h <;> decide +kernel
theorem ev_refuse {h : List aC} {σ : Sg} (H : RC h σ) (ok : okSg σ) (k : Nat) (hk : noN k) : Ev mX8_refuse 1 0 0 [.ref 0, .int (-nI k)] h (sp h (rfS σ (-nI k))) := by
  unfold rfS
  rw [(noN_neg hk).2]
  exact ev_refuse1 H ok.2.2.2.2.2 k hk (noN_neg hk).1
theorem ev_refuseR {h : List aC} {σ : Sg} (H : RC h σ) (ok : okSg σ) {r : Int32} (hr : isNo r) (h0 : ¬ r = 0) : Ev mX8_refuse 1 0 0 [.ref 0, .int r] h (sp h (rfS σ r)) := by
  obtain ⟨k, hk, rfl⟩ := noN_of hr h0
  exact ev_refuse H ok k hk
theorem HR_nil {h : List aC} {nx : Nat} {HF HS HD : Nat → List Nat} {PL : List Int32} {CO : List Nat} (hA : HA h nx 0 HF HS HD PL CO) (hx : nx < 12) (n m : Nat) (rm : Nat → Nat → Nat) : HR h n m rm [] := ⟨Nat.zero_le _, nx, HF, HS, HD, PL, CO, hA, hx, fun j hj => absurd hj (Nat.not_lt_zero j)⟩
theorem hx_forget {h : List aC} {n m : Nat} {rm : Nat → Nat → Nat} {hi : List Hs} (H : HR h n m rm hi) : Ev mX0_forget 1 0 0 [.ref 42] h (pq none (fun h2 => (∀ n m rm, HR h2 n m rm []) ∧ Smo 42 84 h h2)) := by
  obtain ⟨h1, nx, HF, HS, HD, PL, CO, hA, h2, h3⟩ := H
  refine (ev_forget hA h2 h1).mono ?_
  rintro w h2' ⟨rfl, q1, q2⟩
  exact ⟨rfl, fun n m rm => HR_nil q1 h2 n m rm, fun q hq => q2 q (by omega)⟩
theorem upL_eq {f : Nat → List Nat} {y : Nat} {v : List Nat} : upL f y v y = v := if_pos rfl
theorem upL_ne {f : Nat → List Nat} {y j : Nat} {v : List Nat} (h : j ≠ y) : upL f y v j = f j := if_neg h
theorem setI_eq {l : List Int32} {k : Nat} {v : Int32} (h : k < l.length) : (l.set k v).getD k 0 = v := by rw [List.getD_eq_getElem?_getD, List.getElem?_set_self h]; rfl
theorem setI_ne {l : List Int32} {k j : Nat} {v : Int32} (h : k ≠ j) : (l.set k v).getD j 0 = l.getD j 0 := by rw [List.getD_eq_getElem?_getD, List.getElem?_set_ne h, ← List.getD_eq_getElem?_getD]
theorem setK_eq {l : List Nat} {k : Nat} {v : Nat} (h : k < l.length) : (l.set k v).getD k 0 = v := by rw [List.getD_eq_getElem?_getD, List.getElem?_set_self h]; rfl
theorem setK_ne {l : List Nat} {k j : Nat} {v : Nat} (h : k ≠ j) : (l.set k v).getD j 0 = l.getD j 0 := by rw [List.getD_eq_getElem?_getD, List.getElem?_set_ne h, ← List.getD_eq_getElem?_getD]
theorem getD_take {hi : List Hs} {j k : Nat} (h : j < k) : (hi.take k).getD j hd0 = hi.getD j hd0 := by
  rw [List.getD_eq_getElem?_getD, List.getElem?_take_of_lt h, ← List.getD_eq_getElem?_getD]
theorem hRel_keep {h : List aC} {n m nx : Nat} {rm rm2 : Nat → Nat → Nat} {HF HS HD : Nat → List Nat} {PL : List Int32} {CO : List Nat} {hi : List Hs} (R : hRel n m rm nx HF HS HD PL CO hi) (h1 : hi.length ≤ 12) (hA : HA h nx hi.length HF HS HD PL CO) (hx : nx < 12) {F S A : List Nat} {pl : Int32} {co : Nat} {f : Nat → Pr} (one : hOne n m F S A pl co (f, rm) rm2) : hRel n m rm2 ((nx + 1) % 12) (upL HF nx F) (upL HS nx S) (upL HD nx A) (PL.set nx pl) (CO.set nx co) ((f, rm) :: hi.take 11) := by
  intro j hj
  have lP := hA.2.2.2.2.2.2.2.2.1
  have lC := hA.2.2.2.2.2.2.2.2.2.2
  rw [List.length_cons, List.length_take] at hj
  cases j with
  | zero =>
    rw [show ((nx + 1) % 12 + 11 - 0) % 12 = nx by omega, upL_eq, upL_eq, upL_eq, setI_eq (by omega), setK_eq (by omega)]
    exact one
  | succ j =>
    have y0 : ((nx + 1) % 12 + 11 - (j + 1)) % 12 = (nx + 11 - j) % 12 := by omega
    have y1 : (nx + 11 - j) % 12 ≠ nx := by omega
    rw [y0, upL_ne y1, upL_ne y1, upL_ne y1, setI_ne (Ne.symm y1), setK_ne (Ne.symm y1)]
    have e1 : ((f, rm) :: hi.take 11).getD (j + 1) hd0 = hi.getD j hd0 := (List.getD_cons_succ).trans (getD_take (by omega))
    have e2 : rmA rm2 ((f, rm) :: hi.take 11) (j + 1) = rmA rm hi j := by
      unfold rmA
      rw [if_neg (by omega), Nat.add_sub_cancel]
      cases j with
      | zero => rfl
      | succ j => rw [if_neg (by omega), Nat.add_sub_cancel, List.getD_cons_succ, getD_take (by omega)]
    rw [e1, e2]
    exact R j (by omega)
theorem len_keep {hi : List Hs} {e : Hs} (h : hi.length ≤ 12) : (e :: hi.take 11).length = min (hi.length + 1) 12 := by rw [List.length_cons, List.length_take]; omega
theorem hx_keep {h : List aC} {n m : Nat} {rm : Nat → Nat → Nat} {hi : List Hs} (H : HR h n m rm hi) {p n1 m1 : Nat} {F S A : List Nat} (hP : PA h p n1 m1 F S A) (hd : p + 4 ≤ 42 ∨ 84 ≤ p) {f : Nat → Pr} (hf : ∀ k, k < m → fOf F S A k = f k) : Ev mX0_keep 3 0 0 [.ref 42, .ref p] h (pq none (fun h2 => HR h2 n m rm ((f, rm) :: hi.take 11) ∧ Smo 42 84 h h2)) := by
  obtain ⟨h1, nx, HF, HS, HD, PL, CO, hA, h2, h3⟩ := H
  refine (ev_keep hA h2 h1 hP hd).mono ?_
  rintro w h2' ⟨rfl, q1, q2⟩
  exact ⟨rfl, ⟨by rw [len_keep h1]; omega, _, _, _, _, _, _, by rw [len_keep h1]; exact q1, by omega, hRel_keep h3 h1 hA h2 ⟨hf, Or.inl ⟨rfl, rfl⟩⟩⟩, q2⟩
theorem u2_back (rm : Nat → Nat → Nat) (a b v : Nat) : rm = u2 (u2 rm a b v) a b (rm a b) := by
  funext x y
  unfold u2
  by_cases q : x = a ∧ y = b
  · rw [if_pos q, q.1, q.2]
  · rw [if_neg q, if_neg q]
theorem hx_keepCell {h : List aC} {n m : Nat} {rm : Nat → Nat → Nat} {hi : List Hs} (H : HR h n m rm hi) {p n1 m1 : Nat} {F S A : List Nat} (hP : PA h p n1 m1 F S A) (hd : p + 4 ≤ 42 ∨ 84 ≤ p) {f : Nat → Pr} (hf : ∀ k, k < m → fOf F S A k = f k) {a b : Nat} (ha : a < n) (hb : b < n) (hc : rm a b < 196) (v : Nat) : Ev mX0_keepCell 2 0 0 [.ref 42, .ref p, .int (nI (a * n + b)), .int (nI (rm a b))] h (pq none (fun h2 => HR h2 n m (u2 rm a b v) ((f, rm) :: hi.take 11) ∧ Smo 42 84 h h2)) := by
  obtain ⟨h1, nx, HF, HS, HD, PL, CO, hA, h2, h3⟩ := H
  refine (ev_keepCell hA h2 h1 hP hd (nI (a * n + b)) (rm a b)).mono ?_
  rintro w h2' ⟨rfl, q1, q2⟩
  exact ⟨rfl, ⟨by rw [len_keep h1]; omega, _, _, _, _, _, _, by rw [len_keep h1]; exact q1, by omega, hRel_keep h3 h1 hA h2 ⟨hf, Or.inr ⟨a, b, ha, hb, rfl, u2_back rm a b v, hc⟩⟩⟩, q2⟩
